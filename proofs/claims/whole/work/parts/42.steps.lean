/-- the worlds that belong together -/
def Rel (cI cJ cZ cP : ClassId) (o0 : Nat) (u r : Nat → Nat) (pf : Nat → Option Nat) (x : Nat) (w1 : va_W) (w2 : (Nat → Bool) → va_W) : Prop :=
  ∃ (cn : Nat) (mn : Nat) (mi : Nat) (nn : Nat) (sv : Nat → Int32) (rc : Nat → Nat) (an : Nat → Option Nat) (vs : Nat → Int32) (tg : Nat → Nat) (sr : Nat → Option Nat) (kn : Nat → Nat) (su : Nat → Nat) (dn : Nat → Bool) (n : Nat → Nat) (oc : Nat → Nat) (le : Nat → Nat) (rp : Nat → Int32) (ll : Nat → Int64) (li : Nat → Int64) (lc : Nat → Nat) (kc : Nat → Nat) (ch : Nat → Nat → Nat) (ou : Nat → Nat → Int32) (sS : Int64) (lS : Int64) (rS : Int64) (dp : Nat → Int64) (bf : Nat → Option Nat) (sb : Nat → Bool) (lo : Nat → Bool) (fr : Nat → Nat) (ot : Nat → Bool) (cc : Nat → Nat) (lt : Nat → Option Nat) (sd : Nat → Option Nat) (sh : Nat → Int32), Inv cn mn mi nn rc an tg sr kn su dn n oc le ll li lc kc ch ou sS lS rS dp bf sb lo fr ot cc lt sd sh ∧ nn ≤ x ∧ w1 = wC o0 u cI cJ cP pf nn dn n oc le ll li lc kc rp ch ou cn sS lS rS sv rc an dp mn mi vs tg sr kn su ∧ w2 = fun mk => wR r cI cZ cn mn mi nn bf rc sv sb lo fr an ot mk vs tg su sr kn dn cc n le lt sd rp sh oc
def Sp_I (l : Launch) (dC : Nat → ClassId) (dI : Nat → Nat → Nat) (cI cJ cZ cP : ClassId) (o0 : Nat) (u r : Nat → Nat) (pf : Nat → Option Nat) (yC : MethodName) (bC : ByteArray) (nC : Nat) (yR : MethodName) (bR : ByteArray) (nR : Nat) (rt : Option FieldType) (av : List Value) (x : Nat) (w1 : va_W) (w2 : (Nat → Bool) → va_W) (mk : Nat → Bool) : Prop :=
  ∃ (w1' : va_W) (w2' w3 : (Nat → Bool) → va_W) (res : Int32), okI l yC bC nC rt (dC, dI) (TYS cI cJ cZ cP) (.ref o0 :: av) w1 (fun _ => w1') res ∧ okI l yR bR nR rt (dC, dI) (TYS cI cJ cZ cP) (.ref (r 0) :: av) (w2 mk) w3 res ∧ (∀ z, ∃ mk', w3 z = w2' mk') ∧ Rel cI cJ cZ cP o0 u r pf (x + 1) w1' w2'
def Sp_V (l : Launch) (dC : Nat → ClassId) (dI : Nat → Nat → Nat) (cI cJ cZ cP : ClassId) (o0 : Nat) (u r : Nat → Nat) (pf : Nat → Option Nat) (yC : MethodName) (bC : ByteArray) (nC : Nat) (yR : MethodName) (bR : ByteArray) (nR : Nat) (rt : Option FieldType) (av : List Value) (x : Nat) (w1 : va_W) (w2 : (Nat → Bool) → va_W) (mk : Nat → Bool) : Prop :=
  ∃ (w1' : va_W) (w2' w3 : (Nat → Bool) → va_W), okV l yC bC nC rt (dC, dI) (TYS cI cJ cZ cP) (.ref o0 :: av) w1 (fun _ => w1') ∧ okV l yR bR nR rt (dC, dI) (TYS cI cJ cZ cP) (.ref (r 0) :: av) (w2 mk) w3 ∧ (∀ z, ∃ mk', w3 z = w2' mk') ∧ Rel cI cJ cZ cP o0 u r pf (x + 1) w1' w2'
theorem st_c {l : Launch} {dC : Nat → ClassId} {dI : Nat → Nat → Nat} {cI cJ cZ cP : ClassId} {o0 : Nat} {u r : Nat → Nat} {pf : Nat → Option Nat} {yC : MethodName} {bC : ByteArray} {nC : Nat} {yR : MethodName} {bR : ByteArray} {nR : Nat} {rt : Option FieldType} {av : List Value} {x : Nat} {w1 : va_W} {w2 : (Nat → Bool) → va_W} {mk mk2 : Nat → Bool} {res : Int32} {cn : Nat} {mn : Nat} {mi : Nat} {nn : Nat} {sv : Nat → Int32} {rc : Nat → Nat} {an : Nat → Option Nat} {vs : Nat → Int32} {tg : Nat → Nat} {sr : Nat → Option Nat} {kn : Nat → Nat} {su : Nat → Nat} {dn : Nat → Bool} {n : Nat → Nat} {oc : Nat → Nat} {le : Nat → Nat} {rp : Nat → Int32} {ll : Nat → Int64} {li : Nat → Int64} {lc : Nat → Nat} {kc : Nat → Nat} {ch : Nat → Nat → Nat} {ou : Nat → Nat → Int32} {sS : Int64} {lS : Int64} {rS : Int64} {dp : Nat → Int64} {bf : Nat → Option Nat} {sb : Nat → Bool} {lo : Nat → Bool} {fr : Nat → Nat} {ot : Nat → Bool} {cc : Nat → Nat} {lt : Nat → Option Nat} {sd : Nat → Option Nat} {sh : Nat → Int32} (hC : okI l yC bC nC rt (dC, dI) (TYS cI cJ cZ cP) (.ref o0 :: av) w1 (fun _ => wC o0 u cI cJ cP pf nn dn n oc le ll li lc kc rp ch ou cn sS lS rS sv rc an dp mn mi vs tg sr kn su) res) (hR : okI l yR bR nR rt (dC, dI) (TYS cI cJ cZ cP) (.ref (r 0) :: av) (w2 mk) (fun _ => wR r cI cZ cn mn mi nn bf rc sv sb lo fr an ot mk2 vs tg su sr kn dn cc n le lt sd rp sh oc) res) (hI : Inv cn mn mi nn rc an tg sr kn su dn n oc le ll li lc kc ch ou sS lS rS dp bf sb lo fr ot cc lt sd sh) (hx : nn ≤ x + 1) : Sp_I l dC dI cI cJ cZ cP o0 u r pf yC bC nC yR bR nR rt av x w1 w2 mk :=
  ⟨_, fun mk => wR r cI cZ cn mn mi nn bf rc sv sb lo fr an ot mk vs tg su sr kn dn cc n le lt sd rp sh oc, _, res, hC, hR, fun _ => ⟨mk2, rfl⟩, cn, mn, mi, nn, sv, rc, an, vs, tg, sr, kn, su, dn, n, oc, le, rp, ll, li, lc, kc, ch, ou, sS, lS, rS, dp, bf, sb, lo, fr, ot, cc, lt, sd, sh, hI, hx, rfl, rfl⟩
theorem st_x {l : Launch} {dC : Nat → ClassId} {dI : Nat → Nat → Nat} {cI cJ cZ cP : ClassId} {o0 : Nat} {u r : Nat → Nat} {pf : Nat → Option Nat} {yC : MethodName} {bC : ByteArray} {nC : Nat} {yR : MethodName} {bR : ByteArray} {nR : Nat} {rt : Option FieldType} {av : List Value} {x : Nat} {w1 : va_W} {w2 : (Nat → Bool) → va_W} {mk : Nat → Bool} {res : Int32} {cn : Nat} {mn : Nat} {mi : Nat} {nn : Nat} {sv : Nat → Int32} {rc : Nat → Nat} {an : Nat → Option Nat} {vs : Nat → Int32} {tg : Nat → Nat} {sr : Nat → Option Nat} {kn : Nat → Nat} {su : Nat → Nat} {dn : Nat → Bool} {n : Nat → Nat} {oc : Nat → Nat} {le : Nat → Nat} {rp : Nat → Int32} {ll : Nat → Int64} {li : Nat → Int64} {lc : Nat → Nat} {kc : Nat → Nat} {ch : Nat → Nat → Nat} {ou : Nat → Nat → Int32} {sS : Int64} {lS : Int64} {rS : Int64} {dp : Nat → Int64} {bf : Nat → Option Nat} {sb : Nat → Bool} {lo : Nat → Bool} {fr : Nat → Nat} {ot : Nat → Bool} {cc : Nat → Nat} {lt : Nat → Option Nat} {sd : Nat → Option Nat} {sh : Nat → Int32} (hC : okI l yC bC nC rt (dC, dI) (TYS cI cJ cZ cP) (.ref o0 :: av) w1 (fun _ => wC o0 u cI cJ cP pf nn dn n oc le ll li lc kc rp ch ou cn sS lS rS sv rc an dp mn mi vs tg sr kn su) res) (hR : okI l yR bR nR rt (dC, dI) (TYS cI cJ cZ cP) (.ref (r 0) :: av) (w2 mk) (fun z => wR r cI cZ cn mn mi nn bf rc sv sb lo fr an ot z vs tg su sr kn dn cc n le lt sd rp sh oc) res) (hI : Inv cn mn mi nn rc an tg sr kn su dn n oc le ll li lc kc ch ou sS lS rS dp bf sb lo fr ot cc lt sd sh) (hx : nn ≤ x + 1) : Sp_I l dC dI cI cJ cZ cP o0 u r pf yC bC nC yR bR nR rt av x w1 w2 mk :=
  ⟨_, fun mk => wR r cI cZ cn mn mi nn bf rc sv sb lo fr an ot mk vs tg su sr kn dn cc n le lt sd rp sh oc, _, res, hC, hR, fun z => ⟨z, rfl⟩, cn, mn, mi, nn, sv, rc, an, vs, tg, sr, kn, su, dn, n, oc, le, rp, ll, li, lc, kc, ch, ou, sS, lS, rS, dp, bf, sb, lo, fr, ot, cc, lt, sd, sh, hI, hx, rfl, rfl⟩
theorem y_cs (y : Int32) (m : Nat) (hm : m < 2 ^ 31) : (y < 0 ∨ nI m ≤ y) ∨ ∃ j, j < m ∧ y = nI j := by
  by_cases h1 : y < 0
  · exact Or.inl (Or.inl h1)
  · by_cases h2 : nI m ≤ y
    · exact Or.inl (Or.inr h2)
    · have z : (0 : Int32).toInt = 0 := by decide +kernel
      have e1 : 0 ≤ y.toInt := Int.not_lt.mp (fun q => h1 (Int32.lt_iff_toInt_lt.mpr (by rw [z]; exact q)))
      have e2 : y.toInt < m := Int.not_le.mp (fun q => h2 (Int32.le_iff_toInt_le.mpr (by rw [nI_toInt hm]; exact q)))
      refine Or.inr ⟨y.toInt.toNat, by omega, Int32.toInt_inj.mp ?_⟩
      rw [nI_toInt (by omega)]
      omega
theorem kcb {n lc kc : Nat} {ch : Nat → Nat} {sb : Nat → Bool} {lt sd : Option Nat} (h : iK n ch sb lt sd lc kc) (hn : n ≤ 40) : lc ≤ 40 ∧ kc ≤ 40 ∧ (∀ x, lt = some x → x ≤ 40) := by
  obtain ⟨⟨m, h1, h2, h3⟩, h4, h5, h6⟩ := h
  have hl : ∀ x, lt = some x → x ≤ 40 := fun x hx => by have := h3 x hx; omega
  refine ⟨?_, ?_, hl⟩
  · rw [h4]
    cases lt with
    | none => exact Nat.zero_le _
    | some x => exact hl x rfl
  · rw [h5]
    cases sd with
    | none => exact Nat.zero_le _
    | some y =>
      obtain ⟨x, q1, q2⟩ := h6 y rfl
      have := hl x q1
      show y ≤ 40
      omega
theorem sae_sof {sv : Nat → Int32} {ch cc : Nat → Nat} {j n : Nat} (h : ∀ k, k < n → ch k = cc (40 * j + k)) : sae sv ch n = sof sv cc j n := by
  unfold sae sof
  split
  · rfl
  · rw [h (n - 1) (by omega), show 40 * j + (n - 1) = 40 * j + n - 1 by omega]
theorem rp_eq (v : Int32) (n : Nat) (o : Option Nat) {lc : Nat} (h : lc = o.getD 0) : v + (nI n - nI lc) = rp_V v n o := by
  subst h
  cases o with
  | none =>
    show v + (nI n - nI 0) = (v + nI n) - nI 0
    rw [Int32.sub_eq_add_neg, Int32.sub_eq_add_neg, Int32.add_assoc]
  | some q =>
    show v + (nI n - nI q) = (v + nI n) - nI q
    rw [Int32.sub_eq_add_neg, Int32.sub_eq_add_neg, Int32.add_assoc]
set_option maxHeartbeats 2000000 in
theorem st_outputs (l : Launch) (dC : Nat → ClassId) (dI : Nat → Nat → Nat) (cI cJ cZ cP : ClassId) (o0 : Nat) (u r : Nat → Nat) (pf : Nat → Option Nat) (hpf : pf 0 = some (u 1) ∧ pf 1 = some (u 4) ∧ pf 2 = some (u 7)) {x : Nat} {w1 : va_W} {w2 : (Nat → Bool) → va_W} (mk : Nat → Bool) (hx : x < 2 ^ 29) (h : Rel cI cJ cZ cP o0 u r pf x w1 w2) (y : Int32) : Sp_I l dC dI cI cJ cZ cP o0 u r pf mn_O_outputs bc_O_outputs 2 mn_R_outputs bc_R_outputs 2 (some .int) [.int y] x w1 w2 mk := by
  obtain ⟨cn, mn, mi, nn, sv, rc, an, vs, tg, sr, kn, su, dn, n, oc, le, rp, ll, li, lc, kc, ch, ou, sS, lS, rS, dp, bf, sb, lo, fr, ot, cc, lt, sd, sh, hI, hnn, rfl, rfl⟩ := h
  have hI2 := hI
  obtain ⟨⟨⟨b0, b1, b2⟩, b3, b4, b5, b6, b7, b8, b9, b10, b11, b12⟩, hD, ⟨s1, s2, s3⟩, hP⟩ := hI2
  have hx9 : nn ≤ x + 1 := by omega
  have hmn : mn ≤ 104 := by omega
  have hbf : ∀ k, k < cn → ∀ i, bf k = some i → i < 40 := fun k hk i h => by have := b9 k hk i h; omega
  have hrc : ∀ k, k < cn → rc k < 104 := fun k hk => by have := b8 k hk; omega
  have hsr : ∀ k, k < cn → ∀ i, sr (rc k) = some i → i < 40 := fun k _ i h => b3 _ i h
  rcases y_cs y 3 (by omega) with hy | ⟨j, hj, rfl⟩
  · exact st_c (lC_O_outputs_no l dC dI cI cJ cZ cP o0 u pf hpf nn dn n oc le ll li lc kc rp ch ou cn sS lS rS sv rc an dp mn mi vs tg sr kn su y hy) (lR_R_outputs_no l dC dI cI cJ cZ cP r cn mn mi nn bf rc sv sb lo fr an ot mk vs tg su sr kn dn cc n le lt sd rp sh oc y hy) hI hx9
  · exact st_c (lC_O_outputs l dC dI cI cJ cZ cP o0 u pf hpf nn dn n oc le ll li lc kc rp ch ou cn sS lS rS sv rc an dp mn mi vs tg sr kn su j hj) (lR_R_outputs l dC dI cI cJ cZ cP r cn mn mi nn bf rc sv sb lo fr an ot mk vs tg su sr kn dn cc n le lt sd rp sh oc j hj) hI hx9

set_option maxHeartbeats 2000000 in
theorem st_known (l : Launch) (dC : Nat → ClassId) (dI : Nat → Nat → Nat) (cI cJ cZ cP : ClassId) (o0 : Nat) (u r : Nat → Nat) (pf : Nat → Option Nat) (hpf : pf 0 = some (u 1) ∧ pf 1 = some (u 4) ∧ pf 2 = some (u 7)) {x : Nat} {w1 : va_W} {w2 : (Nat → Bool) → va_W} (mk : Nat → Bool) (hx : x < 2 ^ 29) (h : Rel cI cJ cZ cP o0 u r pf x w1 w2) (y : Int32) : Sp_I l dC dI cI cJ cZ cP o0 u r pf mn_O_known bc_O_known 2 mn_R_known bc_R_known 2 (some .int) [.int y] x w1 w2 mk := by
  obtain ⟨cn, mn, mi, nn, sv, rc, an, vs, tg, sr, kn, su, dn, n, oc, le, rp, ll, li, lc, kc, ch, ou, sS, lS, rS, dp, bf, sb, lo, fr, ot, cc, lt, sd, sh, hI, hnn, rfl, rfl⟩ := h
  have hI2 := hI
  obtain ⟨⟨⟨b0, b1, b2⟩, b3, b4, b5, b6, b7, b8, b9, b10, b11, b12⟩, hD, ⟨s1, s2, s3⟩, hP⟩ := hI2
  have hx9 : nn ≤ x + 1 := by omega
  have hmn : mn ≤ 104 := by omega
  have hbf : ∀ k, k < cn → ∀ i, bf k = some i → i < 40 := fun k hk i h => by have := b9 k hk i h; omega
  have hrc : ∀ k, k < cn → rc k < 104 := fun k hk => by have := b8 k hk; omega
  have hsr : ∀ k, k < cn → ∀ i, sr (rc k) = some i → i < 40 := fun k _ i h => b3 _ i h
  rcases y_cs y 3 (by omega) with hy | ⟨j, hj, rfl⟩
  · exact st_c (lC_O_known_no l dC dI cI cJ cZ cP o0 u pf hpf nn dn n oc le ll li lc kc rp ch ou cn sS lS rS sv rc an dp mn mi vs tg sr kn su y hy) (lR_R_known_no l dC dI cI cJ cZ cP r cn mn mi nn bf rc sv sb lo fr an ot mk vs tg su sr kn dn cc n le lt sd rp sh oc y hy) hI hx9
  · exact st_c (lC_O_known l dC dI cI cJ cZ cP o0 u pf hpf nn dn n oc le ll li lc kc rp ch ou cn sS lS rS sv rc an dp mn mi vs tg sr kn su j hj) (lR_R_known l dC dI cI cJ cZ cP r cn mn mi nn bf rc sv sb lo fr an ot mk vs tg su sr kn dn cc n le lt sd rp sh oc j hj) hI hx9

set_option maxHeartbeats 2000000 in
theorem st_replayed (l : Launch) (dC : Nat → ClassId) (dI : Nat → Nat → Nat) (cI cJ cZ cP : ClassId) (o0 : Nat) (u r : Nat → Nat) (pf : Nat → Option Nat) (hpf : pf 0 = some (u 1) ∧ pf 1 = some (u 4) ∧ pf 2 = some (u 7)) {x : Nat} {w1 : va_W} {w2 : (Nat → Bool) → va_W} (mk : Nat → Bool) (hx : x < 2 ^ 29) (h : Rel cI cJ cZ cP o0 u r pf x w1 w2) (y : Int32) : Sp_I l dC dI cI cJ cZ cP o0 u r pf mn_O_replayed bc_O_replayed 2 mn_R_replayed bc_R_replayed 2 (some .int) [.int y] x w1 w2 mk := by
  obtain ⟨cn, mn, mi, nn, sv, rc, an, vs, tg, sr, kn, su, dn, n, oc, le, rp, ll, li, lc, kc, ch, ou, sS, lS, rS, dp, bf, sb, lo, fr, ot, cc, lt, sd, sh, hI, hnn, rfl, rfl⟩ := h
  have hI2 := hI
  obtain ⟨⟨⟨b0, b1, b2⟩, b3, b4, b5, b6, b7, b8, b9, b10, b11, b12⟩, hD, ⟨s1, s2, s3⟩, hP⟩ := hI2
  have hx9 : nn ≤ x + 1 := by omega
  have hmn : mn ≤ 104 := by omega
  have hbf : ∀ k, k < cn → ∀ i, bf k = some i → i < 40 := fun k hk i h => by have := b9 k hk i h; omega
  have hrc : ∀ k, k < cn → rc k < 104 := fun k hk => by have := b8 k hk; omega
  have hsr : ∀ k, k < cn → ∀ i, sr (rc k) = some i → i < 40 := fun k _ i h => b3 _ i h
  rcases y_cs y 3 (by omega) with hy | ⟨j, hj, rfl⟩
  · exact st_c (lC_O_replayed_no l dC dI cI cJ cZ cP o0 u pf hpf nn dn n oc le ll li lc kc rp ch ou cn sS lS rS sv rc an dp mn mi vs tg sr kn su y hy) (lR_R_replayed_no l dC dI cI cJ cZ cP r cn mn mi nn bf rc sv sb lo fr an ot mk vs tg su sr kn dn cc n le lt sd rp sh oc y hy) hI hx9
  · exact st_c (lC_O_replayed l dC dI cI cJ cZ cP o0 u pf hpf nn dn n oc le ll li lc kc rp ch ou cn sS lS rS sv rc an dp mn mi vs tg sr kn su j hj) (lR_R_replayed l dC dI cI cJ cZ cP r cn mn mi nn bf rc sv sb lo fr an ot mk vs tg su sr kn dn cc n le lt sd rp sh oc j hj) hI hx9

set_option maxHeartbeats 2000000 in
theorem st_length (l : Launch) (dC : Nat → ClassId) (dI : Nat → Nat → Nat) (cI cJ cZ cP : ClassId) (o0 : Nat) (u r : Nat → Nat) (pf : Nat → Option Nat) (hpf : pf 0 = some (u 1) ∧ pf 1 = some (u 4) ∧ pf 2 = some (u 7)) {x : Nat} {w1 : va_W} {w2 : (Nat → Bool) → va_W} (mk : Nat → Bool) (hx : x < 2 ^ 29) (h : Rel cI cJ cZ cP o0 u r pf x w1 w2) (y : Int32) : Sp_I l dC dI cI cJ cZ cP o0 u r pf mn_O_length bc_O_length 2 mn_R_length bc_R_length 2 (some .int) [.int y] x w1 w2 mk := by
  obtain ⟨cn, mn, mi, nn, sv, rc, an, vs, tg, sr, kn, su, dn, n, oc, le, rp, ll, li, lc, kc, ch, ou, sS, lS, rS, dp, bf, sb, lo, fr, ot, cc, lt, sd, sh, hI, hnn, rfl, rfl⟩ := h
  have hI2 := hI
  obtain ⟨⟨⟨b0, b1, b2⟩, b3, b4, b5, b6, b7, b8, b9, b10, b11, b12⟩, hD, ⟨s1, s2, s3⟩, hP⟩ := hI2
  have hx9 : nn ≤ x + 1 := by omega
  have hmn : mn ≤ 104 := by omega
  have hbf : ∀ k, k < cn → ∀ i, bf k = some i → i < 40 := fun k hk i h => by have := b9 k hk i h; omega
  have hrc : ∀ k, k < cn → rc k < 104 := fun k hk => by have := b8 k hk; omega
  have hsr : ∀ k, k < cn → ∀ i, sr (rc k) = some i → i < 40 := fun k _ i h => b3 _ i h
  rcases y_cs y 3 (by omega) with hy | ⟨j, hj, rfl⟩
  · exact st_c (lC_O_length_no l dC dI cI cJ cZ cP o0 u pf hpf nn dn n oc le ll li lc kc rp ch ou cn sS lS rS sv rc an dp mn mi vs tg sr kn su y hy) (lR_R_length_no l dC dI cI cJ cZ cP r cn mn mi nn bf rc sv sb lo fr an ot mk vs tg su sr kn dn cc n le lt sd rp sh oc y hy) hI hx9
  · obtain ⟨⟨p1, p2, p3⟩, pc, pk, pl, po⟩ := hP j hj
    have hn : n j ≤ 40 := by omega
    have hch : ∀ k, k < n j → ch j k < 40 := fun k hk => by have := (pc k hk).2.1; omega
    have hcc : ∀ i, i < n j → cc (40 * j + i) < cn := fun i hi => by rw [← (pc i hi).1]; exact (pc i hi).2.1
    have hc4 : ∀ i, i < n j → cc (40 * j + i) < 40 := fun i hi => by have := hcc i hi; omega
    obtain ⟨hlc, hkc, hl40⟩ := kcb pk hn
    have hoc : oc j ≤ 40 := by have := ct_le ot cn; omega
    cases hdn : dn j with
    | true => exact st_c (lC_O_length_dn l dC dI cI cJ cZ cP o0 u pf hpf nn dn n oc le ll li lc kc rp ch ou cn sS lS rS sv rc an dp mn mi vs tg sr kn su j hj hdn) (lR_R_length_dn l dC dI cI cJ cZ cP r cn mn mi nn bf rc sv sb lo fr an ot mk vs tg su sr kn dn cc n le lt sd rp sh oc j hj hdn) hI hx9
    | false =>
      exact st_c (lC_O_length l dC dI cI cJ cZ cP o0 u pf hpf nn dn n oc le ll li lc kc rp ch ou cn sS lS rS sv rc an dp mn mi vs tg sr kn su j hj hdn) (lR_R_length l dC dI cI cJ cZ cP r cn mn mi nn bf rc sv sb lo fr an ot mk vs tg su sr kn dn cc n le lt sd rp sh oc j hj hdn) hI hx9

set_option maxHeartbeats 2000000 in
theorem st_state (l : Launch) (dC : Nat → ClassId) (dI : Nat → Nat → Nat) (cI cJ cZ cP : ClassId) (o0 : Nat) (u r : Nat → Nat) (pf : Nat → Option Nat) (hpf : pf 0 = some (u 1) ∧ pf 1 = some (u 4) ∧ pf 2 = some (u 7)) {x : Nat} {w1 : va_W} {w2 : (Nat → Bool) → va_W} (mk : Nat → Bool) (hx : x < 2 ^ 29) (h : Rel cI cJ cZ cP o0 u r pf x w1 w2) (y : Int32) : Sp_I l dC dI cI cJ cZ cP o0 u r pf mn_O_state bc_O_state 2 mn_R_state bc_R_state 2 (some .int) [.int y] x w1 w2 mk := by
  obtain ⟨cn, mn, mi, nn, sv, rc, an, vs, tg, sr, kn, su, dn, n, oc, le, rp, ll, li, lc, kc, ch, ou, sS, lS, rS, dp, bf, sb, lo, fr, ot, cc, lt, sd, sh, hI, hnn, rfl, rfl⟩ := h
  have hI2 := hI
  obtain ⟨⟨⟨b0, b1, b2⟩, b3, b4, b5, b6, b7, b8, b9, b10, b11, b12⟩, hD, ⟨s1, s2, s3⟩, hP⟩ := hI2
  have hx9 : nn ≤ x + 1 := by omega
  have hmn : mn ≤ 104 := by omega
  have hbf : ∀ k, k < cn → ∀ i, bf k = some i → i < 40 := fun k hk i h => by have := b9 k hk i h; omega
  have hrc : ∀ k, k < cn → rc k < 104 := fun k hk => by have := b8 k hk; omega
  have hsr : ∀ k, k < cn → ∀ i, sr (rc k) = some i → i < 40 := fun k _ i h => b3 _ i h
  rcases y_cs y 3 (by omega) with hy | ⟨j, hj, rfl⟩
  · exact st_c (lC_O_state_no l dC dI cI cJ cZ cP o0 u pf hpf nn dn n oc le ll li lc kc rp ch ou cn sS lS rS sv rc an dp mn mi vs tg sr kn su y hy) (lR_R_state_no l dC dI cI cJ cZ cP r cn mn mi nn bf rc sv sb lo fr an ot mk vs tg su sr kn dn cc n le lt sd rp sh oc y hy) hI hx9
  · obtain ⟨⟨p1, p2, p3⟩, pc, pk, pl, po⟩ := hP j hj
    have hn : n j ≤ 40 := by omega
    have hch : ∀ k, k < n j → ch j k < 40 := fun k hk => by have := (pc k hk).2.1; omega
    have hcc : ∀ i, i < n j → cc (40 * j + i) < cn := fun i hi => by rw [← (pc i hi).1]; exact (pc i hi).2.1
    have hc4 : ∀ i, i < n j → cc (40 * j + i) < 40 := fun i hi => by have := hcc i hi; omega
    obtain ⟨hlc, hkc, hl40⟩ := kcb pk hn
    have hoc : oc j ≤ 40 := by have := ct_le ot cn; omega
    cases hdn : dn j with
    | true => exact st_c (lC_O_state_dn l dC dI cI cJ cZ cP o0 u pf hpf nn dn n oc le ll li lc kc rp ch ou cn sS lS rS sv rc an dp mn mi vs tg sr kn su j hj hdn) (lR_R_state_dn l dC dI cI cJ cZ cP r cn mn mi nn bf rc sv sb lo fr an ot mk vs tg su sr kn dn cc n le lt sd rp sh oc j hj hdn) hI hx9
    | false =>
      have e : sae sv (ch j) (n j) = sof sv cc j (n j) := sae_sof (fun k hk => (pc k hk).1)
      have hC := (lC_O_state l dC dI cI cJ cZ cP o0 u pf hpf nn dn n oc le ll li lc kc rp ch ou cn sS lS rS sv rc an dp mn mi vs tg sr kn su j hj hdn hn hch)
      rw [e] at hC
      exact st_c hC (lR_R_state l dC dI cI cJ cZ cP r cn mn mi nn bf rc sv sb lo fr an ot mk vs tg su sr kn dn cc n le lt sd rp sh oc j hj hdn hn hc4) hI hx9

set_option maxHeartbeats 2000000 in
theorem st_status (l : Launch) (dC : Nat → ClassId) (dI : Nat → Nat → Nat) (cI cJ cZ cP : ClassId) (o0 : Nat) (u r : Nat → Nat) (pf : Nat → Option Nat) (hpf : pf 0 = some (u 1) ∧ pf 1 = some (u 4) ∧ pf 2 = some (u 7)) {x : Nat} {w1 : va_W} {w2 : (Nat → Bool) → va_W} (mk : Nat → Bool) (hx : x < 2 ^ 29) (h : Rel cI cJ cZ cP o0 u r pf x w1 w2) (y : Int32) : Sp_I l dC dI cI cJ cZ cP o0 u r pf mn_O_status bc_O_status 2 mn_R_status bc_R_status 2 (some .int) [.int y] x w1 w2 mk := by
  obtain ⟨cn, mn, mi, nn, sv, rc, an, vs, tg, sr, kn, su, dn, n, oc, le, rp, ll, li, lc, kc, ch, ou, sS, lS, rS, dp, bf, sb, lo, fr, ot, cc, lt, sd, sh, hI, hnn, rfl, rfl⟩ := h
  have hI2 := hI
  obtain ⟨⟨⟨b0, b1, b2⟩, b3, b4, b5, b6, b7, b8, b9, b10, b11, b12⟩, hD, ⟨s1, s2, s3⟩, hP⟩ := hI2
  have hx9 : nn ≤ x + 1 := by omega
  have hmn : mn ≤ 104 := by omega
  have hbf : ∀ k, k < cn → ∀ i, bf k = some i → i < 40 := fun k hk i h => by have := b9 k hk i h; omega
  have hrc : ∀ k, k < cn → rc k < 104 := fun k hk => by have := b8 k hk; omega
  have hsr : ∀ k, k < cn → ∀ i, sr (rc k) = some i → i < 40 := fun k _ i h => b3 _ i h
  rcases y_cs y mn (by omega) with hy | ⟨k, hk, rfl⟩
  · exact st_c (lC_O_status_no l dC dI cI cJ cZ cP o0 u pf hpf nn dn n oc le ll li lc kc rp ch ou cn sS lS rS sv rc an dp mn mi vs tg sr kn su y hy) (lR_R_status_no l dC dI cI cJ cZ cP r cn mn mi nn bf rc sv sb lo fr an ot mk vs tg su sr kn dn cc n le lt sd rp sh oc y hy) hI hx9
  · exact st_c (lC_O_status l dC dI cI cJ cZ cP o0 u pf hpf nn dn n oc le ll li lc kc rp ch ou cn sS lS rS sv rc an dp mn mi vs tg sr kn su k hk hmn) (lR_R_status l dC dI cI cJ cZ cP r cn mn mi nn bf rc sv sb lo fr an ot mk vs tg su sr kn dn cc n le lt sd rp sh oc k hk hmn) hI hx9

set_option maxHeartbeats 2000000 in
theorem st_released (l : Launch) (dC : Nat → ClassId) (dI : Nat → Nat → Nat) (cI cJ cZ cP : ClassId) (o0 : Nat) (u r : Nat → Nat) (pf : Nat → Option Nat) (hpf : pf 0 = some (u 1) ∧ pf 1 = some (u 4) ∧ pf 2 = some (u 7)) {x : Nat} {w1 : va_W} {w2 : (Nat → Bool) → va_W} (mk : Nat → Bool) (hx : x < 2 ^ 29) (h : Rel cI cJ cZ cP o0 u r pf x w1 w2) (y : Int32) (w : Int32) : Sp_I l dC dI cI cJ cZ cP o0 u r pf mn_O_released bc_O_released 3 mn_R_released bc_R_released 3 (some .int) [.int y, .int w] x w1 w2 mk := by
  obtain ⟨cn, mn, mi, nn, sv, rc, an, vs, tg, sr, kn, su, dn, n, oc, le, rp, ll, li, lc, kc, ch, ou, sS, lS, rS, dp, bf, sb, lo, fr, ot, cc, lt, sd, sh, hI, hnn, rfl, rfl⟩ := h
  have hI2 := hI
  obtain ⟨⟨⟨b0, b1, b2⟩, b3, b4, b5, b6, b7, b8, b9, b10, b11, b12⟩, hD, ⟨s1, s2, s3⟩, hP⟩ := hI2
  have hx9 : nn ≤ x + 1 := by omega
  have hmn : mn ≤ 104 := by omega
  have hbf : ∀ k, k < cn → ∀ i, bf k = some i → i < 40 := fun k hk i h => by have := b9 k hk i h; omega
  have hrc : ∀ k, k < cn → rc k < 104 := fun k hk => by have := b8 k hk; omega
  have hsr : ∀ k, k < cn → ∀ i, sr (rc k) = some i → i < 40 := fun k _ i h => b3 _ i h
  rcases y_cs y 3 (by omega) with hy | ⟨j, hj, rfl⟩
  · exact st_c (lC_O_released_no l dC dI cI cJ cZ cP o0 u pf hpf nn dn n oc le ll li lc kc rp ch ou cn sS lS rS sv rc an dp mn mi vs tg sr kn su y w hy) (lR_R_released_no l dC dI cI cJ cZ cP r cn mn mi nn bf rc sv sb lo fr an ot mk vs tg su sr kn dn cc n le lt sd rp sh oc y w hy) hI hx9
  · obtain ⟨⟨p1, p2, p3⟩, pc, pk, pl, po⟩ := hP j hj
    have hn : n j ≤ 40 := by omega
    have hch : ∀ k, k < n j → ch j k < 40 := fun k hk => by have := (pc k hk).2.1; omega
    have hcc : ∀ i, i < n j → cc (40 * j + i) < cn := fun i hi => by rw [← (pc i hi).1]; exact (pc i hi).2.1
    have hc4 : ∀ i, i < n j → cc (40 * j + i) < 40 := fun i hi => by have := hcc i hi; omega
    obtain ⟨hlc, hkc, hl40⟩ := kcb pk hn
    have hoc : oc j ≤ 40 := by have := ct_le ot cn; omega
    rcases y_cs w (oc j) (by omega) with hw | ⟨k, hk, rfl⟩
    · exact st_c (lC_O_released_nk l dC dI cI cJ cZ cP o0 u pf hpf nn dn n oc le ll li lc kc rp ch ou cn sS lS rS sv rc an dp mn mi vs tg sr kn su w j hj hw) (lR_R_released_nk l dC dI cI cJ cZ cP r cn mn mi nn bf rc sv sb lo fr an ot mk vs tg su sr kn dn cc n le lt sd rp sh oc w j hj hw) hI hx9
    · have hC := (lC_O_released l dC dI cI cJ cZ cP o0 u pf hpf nn dn n oc le ll li lc kc rp ch ou cn sS lS rS sv rc an dp mn mi vs tg sr kn su k j hj hk hoc)
      rw [po k hk] at hC
      exact st_c hC (lR_R_released l dC dI cI cJ cZ cP r cn mn mi nn bf rc sv sb lo fr an ot mk vs tg su sr kn dn cc n le lt sd rp sh oc k j hj hk hoc) hI hx9

set_option maxHeartbeats 2000000 in
theorem st_orphans (l : Launch) (dC : Nat → ClassId) (dI : Nat → Nat → Nat) (cI cJ cZ cP : ClassId) (o0 : Nat) (u r : Nat → Nat) (pf : Nat → Option Nat) (hpf : pf 0 = some (u 1) ∧ pf 1 = some (u 4) ∧ pf 2 = some (u 7)) {x : Nat} {w1 : va_W} {w2 : (Nat → Bool) → va_W} (mk : Nat → Bool) (hx : x < 2 ^ 29) (h : Rel cI cJ cZ cP o0 u r pf x w1 w2)  : Sp_I l dC dI cI cJ cZ cP o0 u r pf mn_O_orphans bc_O_orphans 3 mn_R_orphans bc_R_orphans 4 (some .int) [] x w1 w2 mk := by
  obtain ⟨cn, mn, mi, nn, sv, rc, an, vs, tg, sr, kn, su, dn, n, oc, le, rp, ll, li, lc, kc, ch, ou, sS, lS, rS, dp, bf, sb, lo, fr, ot, cc, lt, sd, sh, hI, hnn, rfl, rfl⟩ := h
  have hI2 := hI
  obtain ⟨⟨⟨b0, b1, b2⟩, b3, b4, b5, b6, b7, b8, b9, b10, b11, b12⟩, hD, ⟨s1, s2, s3⟩, hP⟩ := hI2
  have hx9 : nn ≤ x + 1 := by omega
  have hmn : mn ≤ 104 := by omega
  have hbf : ∀ k, k < cn → ∀ i, bf k = some i → i < 40 := fun k hk i h => by have := b9 k hk i h; omega
  have hrc : ∀ k, k < cn → rc k < 104 := fun k hk => by have := b8 k hk; omega
  have hsr : ∀ k, k < cn → ∀ i, sr (rc k) = some i → i < 40 := fun k _ i h => b3 _ i h
  have q : ∀ j, j < 3 → n j ≤ 40 ∧ (∀ k, k < n j → ch j k < 40) ∧ or_I bf rc sr lo cc dn cn j (n j) = (if dn j then 0 else n j - fo_N (hb_B dp (ch j) lS) (n j) 0) := by
    intro j hj
    obtain ⟨⟨p1, p2, p3⟩, pc, pk, pl, po⟩ := hP j hj
    refine ⟨by omega, fun k hk => by have := (pc k hk).2.1; omega, ?_⟩
    cases hd : dn j with
    | true => rw [or_0 hd]; rfl
    | false => rw [or_1 b0 b9 b10 hD pc s2 hd]; rfl
  have hC := (lC_O_orphans l dC dI cI cJ cZ cP o0 u pf hpf nn dn n oc le ll li lc kc rp ch ou cn sS lS rS sv rc an dp mn mi vs tg sr kn su (q 0 (by omega)).1 (q 0 (by omega)).2.1 (q 1 (by omega)).1 (q 1 (by omega)).2.1 (q 2 (by omega)).1 (q 2 (by omega)).2.1)
  have e : or_T bf rc sr lo cc n dn cn 3 = 0 + (if dn 0 then 0 else n 0 - fo_N (hb_B dp (ch 0) lS) (n 0) 0) + (if dn 1 then 0 else n 1 - fo_N (hb_B dp (ch 1) lS) (n 1) 0) + (if dn 2 then 0 else n 2 - fo_N (hb_B dp (ch 2) lS) (n 2) 0) := by
    show 0 + or_I bf rc sr lo cc dn cn 0 (n 0) + or_I bf rc sr lo cc dn cn 1 (n 1) + or_I bf rc sr lo cc dn cn 2 (n 2) = _
    rw [(q 0 (by omega)).2.2, (q 1 (by omega)).2.2, (q 2 (by omega)).2.2]
  rw [← e] at hC
  exact st_x hC (lR_R_orphans l dC dI cI cJ cZ cP r cn mn mi nn bf rc sv sb lo fr an ot mk vs tg su sr kn dn cc n le lt sd rp sh oc b0 hbf hrc hsr (fun j hj => (q j hj).1) (fun j hj i hi => by obtain ⟨p1, pc, p3⟩ := hP j hj; rw [← (pc i hi).1]; exact (pc i hi).2.1)) hI hx9

set_option maxHeartbeats 2000000 in
theorem st_lose (l : Launch) (dC : Nat → ClassId) (dI : Nat → Nat → Nat) (cI cJ cZ cP : ClassId) (o0 : Nat) (u r : Nat → Nat) (pf : Nat → Option Nat) (hpf : pf 0 = some (u 1) ∧ pf 1 = some (u 4) ∧ pf 2 = some (u 7)) {x : Nat} {w1 : va_W} {w2 : (Nat → Bool) → va_W} (mk : Nat → Bool) (hx : x < 2 ^ 29) (h : Rel cI cJ cZ cP o0 u r pf x w1 w2) (y : Int32) : Sp_I l dC dI cI cJ cZ cP o0 u r pf mn_O_lose bc_O_lose 2 mn_R_lose bc_R_lose 2 (some .boolean) [.int y] x w1 w2 mk := by
  obtain ⟨cn, mn, mi, nn, sv, rc, an, vs, tg, sr, kn, su, dn, n, oc, le, rp, ll, li, lc, kc, ch, ou, sS, lS, rS, dp, bf, sb, lo, fr, ot, cc, lt, sd, sh, hI, hnn, rfl, rfl⟩ := h
  have hI2 := hI
  obtain ⟨⟨⟨b0, b1, b2⟩, b3, b4, b5, b6, b7, b8, b9, b10, b11, b12⟩, hD, ⟨s1, s2, s3⟩, hP⟩ := hI2
  have hx9 : nn ≤ x + 1 := by omega
  have hmn : mn ≤ 104 := by omega
  have hbf : ∀ k, k < cn → ∀ i, bf k = some i → i < 40 := fun k hk i h => by have := b9 k hk i h; omega
  have hrc : ∀ k, k < cn → rc k < 104 := fun k hk => by have := b8 k hk; omega
  have hsr : ∀ k, k < cn → ∀ i, sr (rc k) = some i → i < 40 := fun k _ i h => b3 _ i h
  rcases y_cs y mn (by omega) with hy | ⟨k, hk, rfl⟩
  · exact st_c (lC_O_lose_no l dC dI cI cJ cZ cP o0 u pf hpf nn dn n oc le ll li lc kc rp ch ou cn sS lS rS sv rc an dp mn mi vs tg sr kn su y hy) (lR_R_lose_no l dC dI cI cJ cZ cP r cn mn mi nn bf rc sv sb lo fr an ot mk vs tg su sr kn dn cc n le lt sd rp sh oc y hy) hI hx9
  · refine st_c (lC_O_lose l dC dI cI cJ cZ cP o0 u pf hpf nn dn n oc le ll li lc kc rp ch ou cn sS lS rS sv rc an dp mn mi vs tg sr kn su k hk hmn (b6 k) (b3 k)) (lR_R_lose l dC dI cI cJ cZ cP r cn mn mi nn bf rc sv sb lo fr an ot mk vs tg su sr kn dn cc n le lt sd rp sh oc k hk hmn (b6 k) (b3 k)) (inv_su hI (fun z => ?_)) hx9
    split
    · by_cases e : z = k
      · subst e; rw [va_up_self]; decide
      · rw [va_up_ne _ _ e]; exact b6 z
    · exact b6 z

set_option maxHeartbeats 2000000 in
theorem st_input (l : Launch) (dC : Nat → ClassId) (dI : Nat → Nat → Nat) (cI cJ cZ cP : ClassId) (o0 : Nat) (u r : Nat → Nat) (pf : Nat → Option Nat) (hpf : pf 0 = some (u 1) ∧ pf 1 = some (u 4) ∧ pf 2 = some (u 7)) {x : Nat} {w1 : va_W} {w2 : (Nat → Bool) → va_W} (mk : Nat → Bool) (hx : x < 2 ^ 29) (h : Rel cI cJ cZ cP o0 u r pf x w1 w2) (y : Int32) (v : Int32) : Sp_I l dC dI cI cJ cZ cP o0 u r pf mn_O_input bc_O_input 3 mn_R_input bc_R_input 3 (some .int) [.int y, .int v] x w1 w2 mk := by
  obtain ⟨cn, mn, mi, nn, sv, rc, an, vs, tg, sr, kn, su, dn, n, oc, le, rp, ll, li, lc, kc, ch, ou, sS, lS, rS, dp, bf, sb, lo, fr, ot, cc, lt, sd, sh, hI, hnn, rfl, rfl⟩ := h
  have hI2 := hI
  obtain ⟨⟨⟨b0, b1, b2⟩, b3, b4, b5, b6, b7, b8, b9, b10, b11, b12⟩, hD, ⟨s1, s2, s3⟩, hP⟩ := hI2
  have hx9 : nn ≤ x + 1 := by omega
  have hmn : mn ≤ 104 := by omega
  have hbf : ∀ k, k < cn → ∀ i, bf k = some i → i < 40 := fun k hk i h => by have := b9 k hk i h; omega
  have hrc : ∀ k, k < cn → rc k < 104 := fun k hk => by have := b8 k hk; omega
  have hsr : ∀ k, k < cn → ∀ i, sr (rc k) = some i → i < 40 := fun k _ i h => b3 _ i h
  rcases y_cs y 3 (by omega) with hy | ⟨j, hj, rfl⟩
  · exact st_c (lC_O_input_no l dC dI cI cJ cZ cP o0 u pf hpf nn dn n oc le ll li lc kc rp ch ou cn sS lS rS sv rc an dp mn mi vs tg sr kn su y v hy) (lR_R_input_no l dC dI cI cJ cZ cP r cn mn mi nn bf rc sv sb lo fr an ot mk vs tg su sr kn dn cc n le lt sd rp sh oc y v hy) hI hx9
  · by_cases hmi : mi < 24
    · exact st_c (lC_O_input l dC dI cI cJ cZ cP o0 u pf hpf nn dn n oc le ll li lc kc rp ch ou cn sS lS rS sv rc an dp mn mi vs tg sr kn su v j hj hmi (by omega)) (lR_R_input l dC dI cI cJ cZ cP r cn mn mi nn bf rc sv sb lo fr an ot mk vs tg su sr kn dn cc n le lt sd rp sh oc v j hj hmi (by omega)) (inv_input hI hmi hj) hx9
    · have hmi : mi = 24 := by omega
      exact st_c (lC_O_input_full l dC dI cI cJ cZ cP o0 u pf hpf nn dn n oc le ll li lc kc rp ch ou cn sS lS rS sv rc an dp mn mi vs tg sr kn su v j hj hmi) (lR_R_input_full l dC dI cI cJ cZ cP r cn mn mi nn bf rc sv sb lo fr an ot mk vs tg su sr kn dn cc n le lt sd rp sh oc v j hj hmi) hI hx9

set_option maxHeartbeats 2000000 in
theorem st_flush (l : Launch) (dC : Nat → ClassId) (dI : Nat → Nat → Nat) (cI cJ cZ cP : ClassId) (o0 : Nat) (u r : Nat → Nat) (pf : Nat → Option Nat) (hpf : pf 0 = some (u 1) ∧ pf 1 = some (u 4) ∧ pf 2 = some (u 7)) {x : Nat} {w1 : va_W} {w2 : (Nat → Bool) → va_W} (mk : Nat → Bool) (hx : x < 2 ^ 29) (h : Rel cI cJ cZ cP o0 u r pf x w1 w2) (y : Int32) : Sp_I l dC dI cI cJ cZ cP o0 u r pf mn_O_flush bc_O_flush 2 mn_R_flush bc_R_flush 2 (some .int) [.int y] x w1 w2 mk := by
  obtain ⟨cn, mn, mi, nn, sv, rc, an, vs, tg, sr, kn, su, dn, n, oc, le, rp, ll, li, lc, kc, ch, ou, sS, lS, rS, dp, bf, sb, lo, fr, ot, cc, lt, sd, sh, hI, hnn, rfl, rfl⟩ := h
  have hI2 := hI
  obtain ⟨⟨⟨b0, b1, b2⟩, b3, b4, b5, b6, b7, b8, b9, b10, b11, b12⟩, hD, ⟨s1, s2, s3⟩, hP⟩ := hI2
  have hx9 : nn ≤ x + 1 := by omega
  have hmn : mn ≤ 104 := by omega
  have hbf : ∀ k, k < cn → ∀ i, bf k = some i → i < 40 := fun k hk i h => by have := b9 k hk i h; omega
  have hrc : ∀ k, k < cn → rc k < 104 := fun k hk => by have := b8 k hk; omega
  have hsr : ∀ k, k < cn → ∀ i, sr (rc k) = some i → i < 40 := fun k _ i h => b3 _ i h
  rcases y_cs y 3 (by omega) with hy | ⟨j, hj, rfl⟩
  · exact st_c (lC_O_flush_no l dC dI cI cJ cZ cP o0 u pf hpf nn dn n oc le ll li lc kc rp ch ou cn sS lS rS sv rc an dp mn mi vs tg sr kn su y hy) (lR_R_flush_no l dC dI cI cJ cZ cP r cn mn mi nn bf rc sv sb lo fr an ot mk vs tg su sr kn dn cc n le lt sd rp sh oc y hy) hI hx9
  · obtain ⟨⟨p1, p2, p3⟩, pc, pk, pl, po⟩ := hP j hj
    have hn : n j ≤ 40 := by omega
    have hch : ∀ k, k < n j → ch j k < 40 := fun k hk => by have := (pc k hk).2.1; omega
    have hcc : ∀ i, i < n j → cc (40 * j + i) < cn := fun i hi => by rw [← (pc i hi).1]; exact (pc i hi).2.1
    have hc4 : ∀ i, i < n j → cc (40 * j + i) < 40 := fun i hi => by have := hcc i hi; omega
    obtain ⟨hlc, hkc, hl40⟩ := kcb pk hn
    have hoc : oc j ≤ 40 := by have := ct_le ot cn; omega
    cases hdn : dn j with
    | true => exact st_c (lC_O_flush_dn l dC dI cI cJ cZ cP o0 u pf hpf nn dn n oc le ll li lc kc rp ch ou cn sS lS rS sv rc an dp mn mi vs tg sr kn su j hj hdn) (lR_R_flush_dn l dC dI cI cJ cZ cP r cn mn mi nn bf rc sv sb lo fr an ot mk vs tg su sr kn dn cc n le lt sd rp sh oc j hj hdn) hI hx9
    | false =>
      have hC := (lC_O_flush l dC dI cI cJ cZ cP o0 u pf hpf nn dn n oc le ll li lc kc rp ch ou cn sS lS rS sv rc an dp mn mi vs tg sr kn su j hj hdn hn)
      rw [fl_res b0 b9 pc s1] at hC
      exact st_c hC (lR_R_flush l dC dI cI cJ cZ cP r cn mn mi nn bf rc sv sb lo fr an ot mk vs tg su sr kn dn cc n le lt sd rp sh oc j hj hdn hn hc4) (inv_flush hI hj) hx9

set_option maxHeartbeats 2000000 in
theorem st_checkpoint (l : Launch) (dC : Nat → ClassId) (dI : Nat → Nat → Nat) (cI cJ cZ cP : ClassId) (o0 : Nat) (u r : Nat → Nat) (pf : Nat → Option Nat) (hpf : pf 0 = some (u 1) ∧ pf 1 = some (u 4) ∧ pf 2 = some (u 7)) {x : Nat} {w1 : va_W} {w2 : (Nat → Bool) → va_W} (mk : Nat → Bool) (hx : x < 2 ^ 29) (h : Rel cI cJ cZ cP o0 u r pf x w1 w2) (y : Int32) : Sp_I l dC dI cI cJ cZ cP o0 u r pf mn_O_checkpoint bc_O_checkpoint 3 mn_R_checkpoint bc_R_checkpoint 2 (some .int) [.int y] x w1 w2 mk := by
  obtain ⟨cn, mn, mi, nn, sv, rc, an, vs, tg, sr, kn, su, dn, n, oc, le, rp, ll, li, lc, kc, ch, ou, sS, lS, rS, dp, bf, sb, lo, fr, ot, cc, lt, sd, sh, hI, hnn, rfl, rfl⟩ := h
  have hI2 := hI
  obtain ⟨⟨⟨b0, b1, b2⟩, b3, b4, b5, b6, b7, b8, b9, b10, b11, b12⟩, hD, ⟨s1, s2, s3⟩, hP⟩ := hI2
  have hx9 : nn ≤ x + 1 := by omega
  have hmn : mn ≤ 104 := by omega
  have hbf : ∀ k, k < cn → ∀ i, bf k = some i → i < 40 := fun k hk i h => by have := b9 k hk i h; omega
  have hrc : ∀ k, k < cn → rc k < 104 := fun k hk => by have := b8 k hk; omega
  have hsr : ∀ k, k < cn → ∀ i, sr (rc k) = some i → i < 40 := fun k _ i h => b3 _ i h
  rcases y_cs y 3 (by omega) with hy | ⟨j, hj, rfl⟩
  · exact st_c (lC_O_checkpoint_no l dC dI cI cJ cZ cP o0 u pf hpf nn dn n oc le ll li lc kc rp ch ou cn sS lS rS sv rc an dp mn mi vs tg sr kn su y hy) (lR_R_checkpoint_no l dC dI cI cJ cZ cP r cn mn mi nn bf rc sv sb lo fr an ot mk vs tg su sr kn dn cc n le lt sd rp sh oc y hy) hI hx9
  · obtain ⟨⟨p1, p2, p3⟩, pc, pk, pl, po⟩ := hP j hj
    have hn : n j ≤ 40 := by omega
    have hch : ∀ k, k < n j → ch j k < 40 := fun k hk => by have := (pc k hk).2.1; omega
    have hcc : ∀ i, i < n j → cc (40 * j + i) < cn := fun i hi => by rw [← (pc i hi).1]; exact (pc i hi).2.1
    have hc4 : ∀ i, i < n j → cc (40 * j + i) < 40 := fun i hi => by have := hcc i hi; omega
    obtain ⟨hlc, hkc, hl40⟩ := kcb pk hn
    have hoc : oc j ≤ 40 := by have := ct_le ot cn; omega
    cases hdn : dn j with
    | true => exact st_c (lC_O_checkpoint_dn l dC dI cI cJ cZ cP o0 u pf hpf nn dn n oc le ll li lc kc rp ch ou cn sS lS rS sv rc an dp mn mi vs tg sr kn su j hj hdn) (lR_R_checkpoint_dn l dC dI cI cJ cZ cP r cn mn mi nn bf rc sv sb lo fr an ot mk vs tg su sr kn dn cc n le lt sd rp sh oc j hj hdn) hI hx9
    | false =>
      exact st_c (lC_O_checkpoint l dC dI cI cJ cZ cP o0 u pf hpf nn dn n oc le ll li lc kc rp ch ou cn sS lS rS sv rc an dp mn mi vs tg sr kn su j hj hdn hn hlc) (lR_R_checkpoint l dC dI cI cJ cZ cP r cn mn mi nn bf rc sv sb lo fr an ot mk vs tg su sr kn dn cc n le lt sd rp sh oc j hj hdn hn hc4 (fun i h => by have := hl40 i h; omega)) (inv_check hI hj) hx9

set_option maxHeartbeats 2000000 in
theorem st_resend (l : Launch) (dC : Nat → ClassId) (dI : Nat → Nat → Nat) (cI cJ cZ cP : ClassId) (o0 : Nat) (u r : Nat → Nat) (pf : Nat → Option Nat) (hpf : pf 0 = some (u 1) ∧ pf 1 = some (u 4) ∧ pf 2 = some (u 7)) {x : Nat} {w1 : va_W} {w2 : (Nat → Bool) → va_W} (mk : Nat → Bool) (hx : x < 2 ^ 29) (h : Rel cI cJ cZ cP o0 u r pf x w1 w2) (y : Int32) : Sp_I l dC dI cI cJ cZ cP o0 u r pf mn_O_resend bc_O_resend 2 mn_R_resend bc_R_resend 4 (some .int) [.int y] x w1 w2 mk := by
  obtain ⟨cn, mn, mi, nn, sv, rc, an, vs, tg, sr, kn, su, dn, n, oc, le, rp, ll, li, lc, kc, ch, ou, sS, lS, rS, dp, bf, sb, lo, fr, ot, cc, lt, sd, sh, hI, hnn, rfl, rfl⟩ := h
  have hI2 := hI
  obtain ⟨⟨⟨b0, b1, b2⟩, b3, b4, b5, b6, b7, b8, b9, b10, b11, b12⟩, hD, ⟨s1, s2, s3⟩, hP⟩ := hI2
  have hx9 : nn ≤ x + 1 := by omega
  have hmn : mn ≤ 104 := by omega
  have hbf : ∀ k, k < cn → ∀ i, bf k = some i → i < 40 := fun k hk i h => by have := b9 k hk i h; omega
  have hrc : ∀ k, k < cn → rc k < 104 := fun k hk => by have := b8 k hk; omega
  have hsr : ∀ k, k < cn → ∀ i, sr (rc k) = some i → i < 40 := fun k _ i h => b3 _ i h
  rcases y_cs y 3 (by omega) with hy | ⟨j, hj, rfl⟩
  · exact st_c (lC_O_resend_no l dC dI cI cJ cZ cP o0 u pf hpf nn dn n oc le ll li lc kc rp ch ou cn sS lS rS sv rc an dp mn mi vs tg sr kn su y hy) (lR_R_resend_no l dC dI cI cJ cZ cP r cn mn mi nn bf rc sv sb lo fr an ot mk vs tg su sr kn dn cc n le lt sd rp sh oc y hy) hI hx9
  · obtain ⟨⟨p1, p2, p3⟩, pc, pk, pl, po⟩ := hP j hj
    have hn : n j ≤ 40 := by omega
    have hch : ∀ k, k < n j → ch j k < 40 := fun k hk => by have := (pc k hk).2.1; omega
    have hcc : ∀ i, i < n j → cc (40 * j + i) < cn := fun i hi => by rw [← (pc i hi).1]; exact (pc i hi).2.1
    have hc4 : ∀ i, i < n j → cc (40 * j + i) < 40 := fun i hi => by have := hcc i hi; omega
    obtain ⟨hlc, hkc, hl40⟩ := kcb pk hn
    have hoc : oc j ≤ 40 := by have := ct_le ot cn; omega
    cases hdn : dn j with
    | true => exact st_c (lC_O_resend_dn l dC dI cI cJ cZ cP o0 u pf hpf nn dn n oc le ll li lc kc rp ch ou cn sS lS rS sv rc an dp mn mi vs tg sr kn su j hj hdn) (lR_R_resend_dn l dC dI cI cJ cZ cP r cn mn mi nn bf rc sv sb lo fr an ot mk vs tg su sr kn dn cc n le lt sd rp sh oc j hj hdn) hI hx9
    | false =>
      have hC := (lC_O_resend l dC dI cI cJ cZ cP o0 u pf hpf nn dn n oc le ll li lc kc rp ch ou cn sS lS rS sv rc an dp mn mi vs tg sr kn su j hj hdn hn hmn (fun k _ => b6 k))
      obtain ⟨e1, e2⟩ := rv_eq (f := fun i => cc (40 * j + i)) (fun i hi => (pc i hi).1) hch su sr b3 mn
      rw [e1, e2] at hC
      exact st_c hC (lR_R_resend l dC dI cI cJ cZ cP r cn mn mi nn bf rc sv sb lo fr an ot mk vs tg su sr kn dn cc n le lt sd rp sh oc j hj hdn hn hc4 hmn (fun k _ => b6 k) (fun k _ => b3 k)) (inv_su hI (rs_4 b6 mn)) hx9

set_option maxHeartbeats 2000000 in
theorem st_crash (l : Launch) (dC : Nat → ClassId) (dI : Nat → Nat → Nat) (cI cJ cZ cP : ClassId) (o0 : Nat) (u r : Nat → Nat) (pf : Nat → Option Nat) (hpf : pf 0 = some (u 1) ∧ pf 1 = some (u 4) ∧ pf 2 = some (u 7)) {x : Nat} {w1 : va_W} {w2 : (Nat → Bool) → va_W} (mk : Nat → Bool) (hx : x < 2 ^ 29) (h : Rel cI cJ cZ cP o0 u r pf x w1 w2) (y : Int32) : Sp_I l dC dI cI cJ cZ cP o0 u r pf mn_O_crash bc_O_crash 3 mn_R_crash bc_R_crash 5 (some .int) [.int y] x w1 w2 mk := by
  obtain ⟨cn, mn, mi, nn, sv, rc, an, vs, tg, sr, kn, su, dn, n, oc, le, rp, ll, li, lc, kc, ch, ou, sS, lS, rS, dp, bf, sb, lo, fr, ot, cc, lt, sd, sh, hI, hnn, rfl, rfl⟩ := h
  have hI2 := hI
  obtain ⟨⟨⟨b0, b1, b2⟩, b3, b4, b5, b6, b7, b8, b9, b10, b11, b12⟩, hD, ⟨s1, s2, s3⟩, hP⟩ := hI2
  have hx9 : nn ≤ x + 1 := by omega
  have hmn : mn ≤ 104 := by omega
  have hbf : ∀ k, k < cn → ∀ i, bf k = some i → i < 40 := fun k hk i h => by have := b9 k hk i h; omega
  have hrc : ∀ k, k < cn → rc k < 104 := fun k hk => by have := b8 k hk; omega
  have hsr : ∀ k, k < cn → ∀ i, sr (rc k) = some i → i < 40 := fun k _ i h => b3 _ i h
  rcases y_cs y 3 (by omega) with hy | ⟨j, hj, rfl⟩
  · exact st_c (lC_O_crash_no l dC dI cI cJ cZ cP o0 u pf hpf nn dn n oc le ll li lc kc rp ch ou cn sS lS rS sv rc an dp mn mi vs tg sr kn su y hy) (lR_R_crash_no l dC dI cI cJ cZ cP r cn mn mi nn bf rc sv sb lo fr an ot mk vs tg su sr kn dn cc n le lt sd rp sh oc y hy) hI hx9
  · obtain ⟨⟨p1, p2, p3⟩, pc, pk, pl, po⟩ := hP j hj
    have hn : n j ≤ 40 := by omega
    have hch : ∀ k, k < n j → ch j k < 40 := fun k hk => by have := (pc k hk).2.1; omega
    have hcc : ∀ i, i < n j → cc (40 * j + i) < cn := fun i hi => by rw [← (pc i hi).1]; exact (pc i hi).2.1
    have hc4 : ∀ i, i < n j → cc (40 * j + i) < 40 := fun i hi => by have := hcc i hi; omega
    obtain ⟨hlc, hkc, hl40⟩ := kcb pk hn
    have hoc : oc j ≤ 40 := by have := ct_le ot cn; omega
    cases hdn : dn j with
    | true => exact st_c (lC_O_crash_dn l dC dI cI cJ cZ cP o0 u pf hpf nn dn n oc le ll li lc kc rp ch ou cn sS lS rS sv rc an dp mn mi vs tg sr kn su j hj hdn) (lR_R_crash_dn l dC dI cI cJ cZ cP r cn mn mi nn bf rc sv sb lo fr an ot mk vs tg su sr kn dn cc n le lt sd rp sh oc j hj hdn) hI hx9
    | false =>
      have hinj := ch_inj b9 pc
      have hlt2 : ∀ k, k < n j → ch j k < cn := fun k hk => (pc k hk).2.1
      obtain ⟨m, hm, hs, hlx⟩ := pk.1
      have hpc := gone_pc b0 hlt2 hinj hm hs s1
      have hC := (lC_O_crash l dC dI cI cJ cZ cP o0 u pf hpf nn dn n oc le ll li lc kc rp ch ou cn sS lS rS sv rc an dp mn mi vs tg sr kn su m j hj hdn hn (by rw [hpc]; omega) hch (fun i hi => hrc _ (hlt2 i hi)))
      rw [lu_lz, hpc] at hC
      have hq := cr_2 (rc := rc) (lo := lo) (fr := fr) (su := su) (fun k hk => (pc k hk).1) hm hs (n j - m) (by omega)
      rw [show m + (n j - m) = n j by omega] at hq
      exact st_c hC (lR_R_crash l dC dI cI cJ cZ cP r cn mn mi nn bf rc sv sb lo fr an ot mk vs tg su sr kn dn cc n le lt sd rp sh oc m cc _ _ _ j hj hdn hn hc4 (fun i hi => hrc _ (hcc i hi)) hq) (inv_crash hI hj hdn hm hs hlx) hx9

set_option maxHeartbeats 2000000 in
theorem st_release (l : Launch) (dC : Nat → ClassId) (dI : Nat → Nat → Nat) (cI cJ cZ cP : ClassId) (o0 : Nat) (u r : Nat → Nat) (pf : Nat → Option Nat) (hpf : pf 0 = some (u 1) ∧ pf 1 = some (u 4) ∧ pf 2 = some (u 7)) {x : Nat} {w1 : va_W} {w2 : (Nat → Bool) → va_W} (mk : Nat → Bool) (hx : x < 2 ^ 29) (h : Rel cI cJ cZ cP o0 u r pf x w1 w2) (y : Int32) : Sp_I l dC dI cI cJ cZ cP o0 u r pf mn_O_release bc_O_release 6 mn_R_release bc_R_release 5 (some .int) [.int y] x w1 w2 mk := by
  obtain ⟨cn, mn, mi, nn, sv, rc, an, vs, tg, sr, kn, su, dn, n, oc, le, rp, ll, li, lc, kc, ch, ou, sS, lS, rS, dp, bf, sb, lo, fr, ot, cc, lt, sd, sh, hI, hnn, rfl, rfl⟩ := h
  have hI2 := hI
  obtain ⟨⟨⟨b0, b1, b2⟩, b3, b4, b5, b6, b7, b8, b9, b10, b11, b12⟩, hD, ⟨s1, s2, s3⟩, hP⟩ := hI2
  have hx9 : nn ≤ x + 1 := by omega
  have hmn : mn ≤ 104 := by omega
  have hbf : ∀ k, k < cn → ∀ i, bf k = some i → i < 40 := fun k hk i h => by have := b9 k hk i h; omega
  have hrc : ∀ k, k < cn → rc k < 104 := fun k hk => by have := b8 k hk; omega
  have hsr : ∀ k, k < cn → ∀ i, sr (rc k) = some i → i < 40 := fun k _ i h => b3 _ i h
  rcases y_cs y 3 (by omega) with hy | ⟨j, hj, rfl⟩
  · exact st_c (lC_O_release_no l dC dI cI cJ cZ cP o0 u pf hpf nn dn n oc le ll li lc kc rp ch ou cn sS lS rS sv rc an dp mn mi vs tg sr kn su y hy) (lR_R_release_no l dC dI cI cJ cZ cP r cn mn mi nn bf rc sv sb lo fr an ot mk vs tg su sr kn dn cc n le lt sd rp sh oc y hy) hI hx9
  · obtain ⟨⟨p1, p2, p3⟩, pc, pk, pl, po⟩ := hP j hj
    have hn : n j ≤ 40 := by omega
    have hch : ∀ k, k < n j → ch j k < 40 := fun k hk => by have := (pc k hk).2.1; omega
    have hcc : ∀ i, i < n j → cc (40 * j + i) < cn := fun i hi => by rw [← (pc i hi).1]; exact (pc i hi).2.1
    have hc4 : ∀ i, i < n j → cc (40 * j + i) < 40 := fun i hi => by have := hcc i hi; omega
    obtain ⟨hlc, hkc, hl40⟩ := kcb pk hn
    have hoc : oc j ≤ 40 := by have := ct_le ot cn; omega
    cases hdn : dn j with
    | true => exact st_c (lC_O_release_dn l dC dI cI cJ cZ cP o0 u pf hpf nn dn n oc le ll li lc kc rp ch ou cn sS lS rS sv rc an dp mn mi vs tg sr kn su j hj hdn) (lR_R_release_dn l dC dI cI cJ cZ cP r cn mn mi nn bf rc sv sb lo fr an ot mk vs tg su sr kn dn cc n le lt sd rp sh oc j hj hdn) hI hx9
    | false =>
      have hcl : ∀ k, k < n j → ch j k = cc (40 * j + k) ∧ ch j k < cn := fun k hk => ⟨(pc k hk).1, (pc k hk).2.1⟩
      have hre := re_rr (sv := sv) (ou := ou j) (sh := sh) b0 b9 b10 hD s1 hcl s3 p3 po
      obtain ⟨rS2, oc2, ou2, z2, ot2, sh2, e1, e2, h1, h2, h3, h4, h5, h6⟩ := hre (n j) (Nat.le_refl _)
      have ez : oc2 - oc j = z2 := by omega
      have hC := (lC_O_release l dC dI cI cJ cZ cP o0 u pf hpf nn dn n oc le ll li lc kc rp ch ou cn sS lS rS sv rc an dp mn mi vs tg sr kn su oc2 rS2 ou2 j hj hdn hn hch hoc (fun k hk h => by
          obtain ⟨a1, a2, a3, a4, a5, a6, g1, g2, g3, g4, g5, g6, g7, g8⟩ := hre k (by omega)
          rw [g1] at h ⊢
          have h7 := (re_cond (sv := sv) b0 b9 b10 hD s1 (ch j k) (hcl k hk).2 g4).mp h
          have h8 := ct_lt (hcl k hk).2 h7.2.1
          dsimp only
          omega) e1)
      rw [ez] at hC
      exact st_x hC (lR_R_release l dC dI cI cJ cZ cP r cn mn mi nn bf rc sv sb lo fr an ot mk vs tg su sr kn dn cc n le lt sd rp sh oc oc2 z2 ot2 sh2 j hj hdn hn hcc hoc b0 hbf hrc hsr (fun k hk _ h _ => by
          obtain ⟨a1, a2, a3, a4, a5, a6, g1, g2, g3, g4, g5, g6, g7, g8⟩ := hre k (by omega)
          rw [g2] at h ⊢
          dsimp only at h ⊢
          have h8 := ct_lt (hcc k hk) h
          omega) e2) (inv_rel hI hj h2 h3 h4 h5 h6) hx9

set_option maxHeartbeats 2000000 in
theorem st_learn (l : Launch) (dC : Nat → ClassId) (dI : Nat → Nat → Nat) (cI cJ cZ cP : ClassId) (o0 : Nat) (u r : Nat → Nat) (pf : Nat → Option Nat) (hpf : pf 0 = some (u 1) ∧ pf 1 = some (u 4) ∧ pf 2 = some (u 7)) {x : Nat} {w1 : va_W} {w2 : (Nat → Bool) → va_W} (mk : Nat → Bool) (hx : x < 2 ^ 29) (h : Rel cI cJ cZ cP o0 u r pf x w1 w2) (y : Int32) : Sp_I l dC dI cI cJ cZ cP o0 u r pf mn_O_learn bc_O_learn 4 mn_R_learn bc_R_learn 3 (some .int) [.int y] x w1 w2 mk := by
  obtain ⟨cn, mn, mi, nn, sv, rc, an, vs, tg, sr, kn, su, dn, n, oc, le, rp, ll, li, lc, kc, ch, ou, sS, lS, rS, dp, bf, sb, lo, fr, ot, cc, lt, sd, sh, hI, hnn, rfl, rfl⟩ := h
  have hI2 := hI
  obtain ⟨⟨⟨b0, b1, b2⟩, b3, b4, b5, b6, b7, b8, b9, b10, b11, b12⟩, hD, ⟨s1, s2, s3⟩, hP⟩ := hI2
  have hx9 : nn ≤ x + 1 := by omega
  have hmn : mn ≤ 104 := by omega
  have hbf : ∀ k, k < cn → ∀ i, bf k = some i → i < 40 := fun k hk i h => by have := b9 k hk i h; omega
  have hrc : ∀ k, k < cn → rc k < 104 := fun k hk => by have := b8 k hk; omega
  have hsr : ∀ k, k < cn → ∀ i, sr (rc k) = some i → i < 40 := fun k _ i h => b3 _ i h
  rcases y_cs y 3 (by omega) with hy | ⟨j, hj, rfl⟩
  · exact st_c (lC_O_learn_no l dC dI cI cJ cZ cP o0 u pf hpf nn dn n oc le ll li lc kc rp ch ou cn sS lS rS sv rc an dp mn mi vs tg sr kn su y hy) (lR_R_learn_no l dC dI cI cJ cZ cP r cn mn mi nn bf rc sv sb lo fr an ot mk vs tg su sr kn dn cc n le lt sd rp sh oc y hy) hI hx9
  · obtain ⟨⟨p1, p2, p3⟩, pc, pk, pl, po⟩ := hP j hj
    have hn : n j ≤ 40 := by omega
    have hch : ∀ k, k < n j → ch j k < 40 := fun k hk => by have := (pc k hk).2.1; omega
    have hcc : ∀ i, i < n j → cc (40 * j + i) < cn := fun i hi => by rw [← (pc i hi).1]; exact (pc i hi).2.1
    have hc4 : ∀ i, i < n j → cc (40 * j + i) < 40 := fun i hi => by have := hcc i hi; omega
    obtain ⟨hlc, hkc, hl40⟩ := kcb pk hn
    have hoc : oc j ≤ 40 := by have := ct_le ot cn; omega
    cases hdn : dn j with
    | true => exact st_c (lC_O_learn_dn l dC dI cI cJ cZ cP o0 u pf hpf nn dn n oc le ll li lc kc rp ch ou cn sS lS rS sv rc an dp mn mi vs tg sr kn su j hj hdn) (lR_R_learn_dn l dC dI cI cJ cZ cP r cn mn mi nn bf rc sv sb lo fr an ot mk vs tg su sr kn dn cc n le lt sd rp sh oc j hj hdn) hI hx9
    | false =>
      have hcl : ∀ k, k < n j → ch j k = cc (40 * j + k) ∧ ch j k < cn := fun k hk => ⟨(pc k hk).1, (pc k hk).2.1⟩
      have ha : ∀ k, k < cn → ∀ a, an k = some a → a < 2 ^ 31 := fun k hk a h => by have := b11 k hk a h; omega
      have hss : ∀ i, i < n j → ∀ q, sr (rc (cc (40 * j + i))) = some q → q < cn := fun i hi q h => by have := b10 _ (hcc i hi) q h; have := hcc i hi; omega
      by_cases hall : nn ≤ le j
      · exact st_c (lC_O_learn_all l dC dI cI cJ cZ cP o0 u pf hpf nn dn n oc le ll li lc kc rp ch ou cn sS lS rS sv rc an dp mn mi vs tg sr kn su j hj hdn (by omega) p2 hall) (lR_R_learn_all l dC dI cI cJ cZ cP r cn mn mi nn bf rc sv sb lo fr an ot mk vs tg su sr kn dn cc n le lt sd rp sh oc j hj hdn (by omega) (by omega) hall) hI hx9
      · obtain ⟨g1, g2, g3⟩ := ln_1 (su := su) (j := j) (cc := cc) b0 b9 b10 hD ha (by omega) hcl pl.1
        have hkp : fo_N (hb_B dp (ch j) (ab_S an (le j) cn)) (n j) 0 ≤ n j := fo_N_le0 _ _
        generalize hk9 : fo_N (hb_B dp (ch j) (ab_S an (le j) cn)) (n j) 0 = kp at *
        have hK2 := dr_K (lt := lt) (sd := sd) hn hkp pk
        have hI9 := inv_cut hI hj hkp (show le j + 1 ≤ nn by omega) g2 hK2 (fun i hi => dr_ne hi) (gb_4 (f := fun i => rc (ch j i)) (o := ko_B sr dp (ll j ||| ab_S an (le j) cn)) (kp := kp) b6 (n j - kp))
        by_cases h0 : n j - kp = 0
        · have hR := (lR_R_learn_0 l dC dI cI cJ cZ cP r cn mn mi nn bf rc sv sb lo fr an ot mk vs tg su sr kn dn cc n le lt sd rp sh oc kp j hj hdn (by omega) (by omega) h0 hn hcc hss b0 hbf hrc hsr g1.symm)
          rw [← g3 kp] at hR
          exact st_x (lC_O_learn_0 l dC dI cI cJ cZ cP o0 u pf hpf nn dn n oc le ll li lc kc rp ch ou cn sS lS rS sv rc an dp mn mi vs tg sr kn su kp _ j hj hdn (by omega) p2 (by omega) h0 hn hch (fun i hi => hrc _ (hcl i hi).2) (fun q _ => b3 q) b0 ha hlc hkc rfl hk9) hR hI9 hx9
        · have hR := (lR_R_learn l dC dI cI cJ cZ cP r cn mn mi nn bf rc sv sb lo fr an ot mk vs tg su sr kn dn cc n le lt sd rp sh oc kp j hj hdn (by omega) (by omega) (by omega) hn hcc hss b0 hbf hrc hsr g1.symm (fun i h => by have := (kcb hK2 (by omega)).2.2 i h; omega))
          rw [← g3 kp, ← rp_eq _ _ _ hK2.2.1] at hR
          exact st_x (lC_O_learn l dC dI cI cJ cZ cP o0 u pf hpf nn dn n oc le ll li lc kc rp ch ou cn sS lS rS sv rc an dp mn mi vs tg sr kn su kp _ j hj hdn (by omega) p2 (by omega) (by omega) hn hch (fun i hi => hrc _ (hcl i hi).2) (fun q _ => b3 q) b0 ha hlc hkc rfl hk9) hR hI9 hx9

set_option maxHeartbeats 2000000 in
theorem st_restart (l : Launch) (dC : Nat → ClassId) (dI : Nat → Nat → Nat) (cI cJ cZ cP : ClassId) (o0 : Nat) (u r : Nat → Nat) (pf : Nat → Option Nat) (hpf : pf 0 = some (u 1) ∧ pf 1 = some (u 4) ∧ pf 2 = some (u 7)) {x : Nat} {w1 : va_W} {w2 : (Nat → Bool) → va_W} (mk : Nat → Bool) (hx : x < 2 ^ 29) (h : Rel cI cJ cZ cP o0 u r pf x w1 w2) (y : Int32) : Sp_I l dC dI cI cJ cZ cP o0 u r pf mn_O_restart bc_O_restart 4 mn_R_restart bc_R_restart 3 (some .int) [.int y] x w1 w2 mk := by
  obtain ⟨cn, mn, mi, nn, sv, rc, an, vs, tg, sr, kn, su, dn, n, oc, le, rp, ll, li, lc, kc, ch, ou, sS, lS, rS, dp, bf, sb, lo, fr, ot, cc, lt, sd, sh, hI, hnn, rfl, rfl⟩ := h
  have hI2 := hI
  obtain ⟨⟨⟨b0, b1, b2⟩, b3, b4, b5, b6, b7, b8, b9, b10, b11, b12⟩, hD, ⟨s1, s2, s3⟩, hP⟩ := hI2
  have hx9 : nn ≤ x + 1 := by omega
  have hmn : mn ≤ 104 := by omega
  have hbf : ∀ k, k < cn → ∀ i, bf k = some i → i < 40 := fun k hk i h => by have := b9 k hk i h; omega
  have hrc : ∀ k, k < cn → rc k < 104 := fun k hk => by have := b8 k hk; omega
  have hsr : ∀ k, k < cn → ∀ i, sr (rc k) = some i → i < 40 := fun k _ i h => b3 _ i h
  rcases y_cs y 3 (by omega) with hy | ⟨j, hj, rfl⟩
  · exact st_c (lC_O_restart_no l dC dI cI cJ cZ cP o0 u pf hpf nn dn n oc le ll li lc kc rp ch ou cn sS lS rS sv rc an dp mn mi vs tg sr kn su y hy) (lR_R_restart_no l dC dI cI cJ cZ cP r cn mn mi nn bf rc sv sb lo fr an ot mk vs tg su sr kn dn cc n le lt sd rp sh oc y hy) hI hx9
  · obtain ⟨⟨p1, p2, p3⟩, pc, pk, pl, po⟩ := hP j hj
    have hn : n j ≤ 40 := by omega
    have hch : ∀ k, k < n j → ch j k < 40 := fun k hk => by have := (pc k hk).2.1; omega
    have hcc : ∀ i, i < n j → cc (40 * j + i) < cn := fun i hi => by rw [← (pc i hi).1]; exact (pc i hi).2.1
    have hc4 : ∀ i, i < n j → cc (40 * j + i) < 40 := fun i hi => by have := hcc i hi; omega
    obtain ⟨hlc, hkc, hl40⟩ := kcb pk hn
    have hoc : oc j ≤ 40 := by have := ct_le ot cn; omega
    cases hdn : dn j with
    | false => exact st_c (lC_O_restart_up l dC dI cI cJ cZ cP o0 u pf hpf nn dn n oc le ll li lc kc rp ch ou cn sS lS rS sv rc an dp mn mi vs tg sr kn su j hj hdn) (lR_R_restart_up l dC dI cI cJ cZ cP r cn mn mi nn bf rc sv sb lo fr an ot mk vs tg su sr kn dn cc n le lt sd rp sh oc j hj hdn) hI hx9
    | true =>
      have hcl : ∀ k, k < n j → ch j k = cc (40 * j + k) ∧ ch j k < cn := fun k hk => ⟨(pc k hk).1, (pc k hk).2.1⟩
      have ha : ∀ k, k < cn → ∀ a, an k = some a → a < 2 ^ 31 := fun k hk a h => by have := b11 k hk a h; omega
      have hss : ∀ i, i < n j → ∀ q, sr (rc (cc (40 * j + i))) = some q → q < cn := fun i hi q h => by have := b10 _ (hcc i hi) q h; have := hcc i hi; omega
      have hla := pl.2.1 hdn
      have ean := an_ra (an := an) b0 hla nn cn (Nat.le_refl _)
      have hJ := inv_ann hI hj hdn
      obtain ⟨hB2, -, -, hP2⟩ := hJ
      have ha2 : ∀ k, k < cn → ∀ a, ra_F an fr j nn cn k = some a → a < 2 ^ 31 := fun k hk a h => by have := hB2.2.2.2.2.2.2.2.2.2.1 k hk a h; omega
      have pl2 := (hP2 j hj).2.2.2.1.1
      obtain ⟨n2, ll2, lc2, kc2, lt2, sd2, su2, e1, e2, h3, h4, h5, h6, h7⟩ := ln_it (su := su) (j := j) (cc := cc) (rc := rc) b0 b9 b10 hD ha2 hn hcl pl2 pk b6 (nn + 1 - le j) (by omega)
      rw [show le j + (nn + 1 - le j) = nn + 1 by omega] at e1 e2 h4
      have hI9 := inv_cut (inv_ann hI hj hdn) hj h3 (Nat.le_refl _) h4 h5 h6 h7
      have hfr : ∀ k, k < cn → fr k < 4 := fun k hk => by
        rcases b12 k hk with h | h
        · omega
        · have := b5 _ (b8 k hk); omega
      have hR := (lR_R_restart l dC dI cI cJ cZ cP r cn mn mi nn bf rc sv sb lo fr an ot mk vs tg su sr kn dn cc n le lt sd rp sh oc n2 lt2 sd2 su2 j hj hdn (by omega) hn hcc p2 hss hfr b0 hbf hrc hsr e2 (fun i h => by have := (kcb h5 (by omega)).2.2 i h; omega))
      rw [← rp_eq _ _ _ h5.2.1] at hR
      have hC := (lC_O_restart l dC dI cI cJ cZ cP o0 u pf hpf nn dn n oc le ll li lc kc rp ch ou cn sS lS rS sv rc an dp mn mi vs tg sr kn su n2 lc2 kc2 ll2 su2 j hj hdn (by omega) p2 hn hch (fun i hi => hrc _ (hcl i hi).2) (fun q _ => b3 q) b0 (by rw [ean]; exact ha2) hlc hkc (by rw [ean]; exact e1))
      rw [ean] at hC
      exact st_x hC hR hI9 (by omega)

set_option maxHeartbeats 2000000 in
theorem st_deliver (l : Launch) (dC : Nat → ClassId) (dI : Nat → Nat → Nat) (cI cJ cZ cP : ClassId) (o0 : Nat) (u r : Nat → Nat) (pf : Nat → Option Nat) (hpf : pf 0 = some (u 1) ∧ pf 1 = some (u 4) ∧ pf 2 = some (u 7)) {x : Nat} {w1 : va_W} {w2 : (Nat → Bool) → va_W} (mk : Nat → Bool) (hx : x < 2 ^ 29) (h : Rel cI cJ cZ cP o0 u r pf x w1 w2) (y : Int32) : Sp_I l dC dI cI cJ cZ cP o0 u r pf mn_O_deliver bc_O_deliver 4 mn_R_deliver bc_R_deliver 3 (some .int) [.int y] x w1 w2 mk := by
  obtain ⟨cn, mn, mi, nn, sv, rc, an, vs, tg, sr, kn, su, dn, n, oc, le, rp, ll, li, lc, kc, ch, ou, sS, lS, rS, dp, bf, sb, lo, fr, ot, cc, lt, sd, sh, hI, hnn, rfl, rfl⟩ := h
  have hI2 := hI
  obtain ⟨⟨⟨b0, b1, b2⟩, b3, b4, b5, b6, b7, b8, b9, b10, b11, b12⟩, hD, ⟨s1, s2, s3⟩, hP⟩ := hI2
  have hx9 : nn ≤ x + 1 := by omega
  have hmn : mn ≤ 104 := by omega
  have hbf : ∀ k, k < cn → ∀ i, bf k = some i → i < 40 := fun k hk i h => by have := b9 k hk i h; omega
  have hrc : ∀ k, k < cn → rc k < 104 := fun k hk => by have := b8 k hk; omega
  have hsr : ∀ k, k < cn → ∀ i, sr (rc k) = some i → i < 40 := fun k _ i h => b3 _ i h
  rcases y_cs y mn (by omega) with hy | ⟨k, hk, rfl⟩
  · exact st_c (lC_O_deliver_no l dC dI cI cJ cZ cP o0 u pf hpf nn dn n oc le ll li lc kc rp ch ou cn sS lS rS sv rc an dp mn mi vs tg sr kn su y hy) (lR_R_deliver_no l dC dI cI cJ cZ cP r cn mn mi nn bf rc sv sb lo fr an ot mk vs tg su sr kn dn cc n le lt sd rp sh oc y hy) hI hx9
  · obtain ⟨j, htg⟩ : ∃ j, tg k = j := ⟨_, rfl⟩
    have hj : j < 3 := by rw [← htg]; exact b5 k hk
    obtain ⟨⟨p1, p2, p3⟩, pc, pk, pl, po⟩ := hP j hj
    have hn : n j ≤ 40 := by omega
    have hch : ∀ k, k < n j → ch j k < 40 := fun k hk => by have := (pc k hk).2.1; omega
    have hcc : ∀ i, i < n j → cc (40 * j + i) < cn := fun i hi => by rw [← (pc i hi).1]; exact (pc i hi).2.1
    have hc4 : ∀ i, i < n j → cc (40 * j + i) < 40 := fun i hi => by have := hcc i hi; omega
    obtain ⟨hlc, hkc, hl40⟩ := kcb pk hn
    have hoc : oc j ≤ 40 := by have := ct_le ot cn; omega
    have hkn := b7 k hk
    have hu := b6 k
    have hso : ∀ i, sr k = some i → i < cn := b4 k hk
    by_cases hw : su k = 0
    · by_cases hcn : cn = 40
      · cases hdn : dn j with
        | true => exact st_c (lC_O_deliver_full l dC dI cI cJ cZ cP o0 u pf hpf nn dn n oc le ll li lc kc rp ch ou cn sS lS rS sv rc an dp mn mi vs tg sr kn su k hk hmn hu hw hcn) (lR_R_deliver_dn l dC dI cI cJ cZ cP r cn mn mi nn bf rc sv sb lo fr an ot mk vs tg su sr kn dn cc n le lt sd rp sh oc k j hj hk hmn hu hw htg hdn) hI hx9
        | false => exact st_c (lC_O_deliver_full l dC dI cI cJ cZ cP o0 u pf hpf nn dn n oc le ll li lc kc rp ch ou cn sS lS rS sv rc an dp mn mi vs tg sr kn su k hk hmn hu hw hcn) (lR_R_deliver_full l dC dI cI cJ cZ cP r cn mn mi nn bf rc sv sb lo fr an ot mk vs tg su sr kn dn cc n le lt sd rp sh oc k j hj hk hmn hu hw htg hdn hcn) hI hx9
      · have hcn : cn < 40 := by omega
        cases hdn : dn j with
        | true => exact st_c (lC_O_deliver_dn l dC dI cI cJ cZ cP o0 u pf hpf nn dn n oc le ll li lc kc rp ch ou cn sS lS rS sv rc an dp mn mi vs tg sr kn su k j hj hk hmn hu hw hcn htg hdn) (lR_R_deliver_dn l dC dI cI cJ cZ cP r cn mn mi nn bf rc sv sb lo fr an ot mk vs tg su sr kn dn cc n le lt sd rp sh oc k j hj hk hmn hu hw htg hdn) hI hx9
        | false =>
          by_cases hh : kn k ≤ le j
          · have ha : ∀ k, k < cn → ∀ a, an k = some a → a < 2 ^ 31 := fun k hk a h => by have := b11 k hk a h; omega
            have eko : ko_B sr dp (ll j) k = hi_B bf rc sr an (sr k) 0 (le j) cn := by
              rw [← hi_dp b0 b9 b10 hD ha (by omega) (by omega) (sr k) hso (ll j) pl.1]
              unfold ko_B
              rw [dsv_eq]
            cases ho : hi_B bf rc sr an (sr k) 0 (le j) cn with
            | true => exact st_x (lC_O_deliver_orph l dC dI cI cJ cZ cP o0 u pf hpf nn dn n oc le ll li lc kc rp ch ou cn sS lS rS sv rc an dp mn mi vs tg sr kn su k j hj hk hmn hu hw hcn htg hdn (by omega) (by omega) hh (b3 k) (eko.trans ho)) (lR_R_deliver_orph l dC dI cI cJ cZ cP r cn mn mi nn bf rc sv sb lo fr an ot mk vs tg su sr kn dn cc n le lt sd rp sh oc k j hj hk hmn hu hw htg hdn hcn (by omega) (by omega) hh hso hbf hrc hsr ho) (inv_su hI (fun z => by
                by_cases e : z = k
                · subst e; rw [va_up_self]; decide
                · rw [va_up_ne _ _ e]; exact b6 z)) hx9
            | false =>
              have est : sae sv (ch j) (n j) = sof sv cc j (n j) := sae_sof (fun k hk => (pc k hk).1)
              obtain ⟨t, ht⟩ : ∃ t, nI 31 * (sof sv cc j (n j)) + (vs k) = t := ⟨_, rfl⟩
              have hC := (lC_O_deliver l dC dI cI cJ cZ cP o0 u pf hpf nn dn n oc le ll li lc kc rp ch ou cn sS lS rS sv rc an dp mn mi vs tg sr kn su k t _ j hj hu hw htg hdn (by omega) (by omega) hh (eko.trans ho) hk hcn (by omega) (by omega) hch (b3 k) (by rw [est]; exact ht) rfl)
              have hR := (lR_R_deliver l dC dI cI cJ cZ cP r cn mn mi nn bf rc sv sb lo fr an ot mk vs tg su sr kn dn cc n le lt sd rp sh oc k t _ j hj hu hw htg hdn (by omega) (by omega) hh hso hbf hrc hsr ho (by omega) hc4 hk hcn (by omega) (b3 k) ht rfl)
              have hI8 := inv_recv hI (sb1 t) (sb2 t) hj hk htg hcn
              cases hsk : sr k with
              | some q =>
                have e : ¬ sr k = none := by rw [hsk]; exact fun z => by cases z
                rw [if_neg e] at hC hR
                exact st_x hC hR hI8 hx9
              | none =>
                rw [if_pos hsk] at hC hR
                have hI9 := inv_flush hI8 hj
                simp only [va_up_self] at hI9
                exact st_x hC hR hI9 hx9
          · exact st_c (lC_O_deliver_held l dC dI cI cJ cZ cP o0 u pf hpf nn dn n oc le ll li lc kc rp ch ou cn sS lS rS sv rc an dp mn mi vs tg sr kn su k j hj hk hmn hu hw hcn htg hdn (by omega) (by omega) (by omega)) (lR_R_deliver_held l dC dI cI cJ cZ cP r cn mn mi nn bf rc sv sb lo fr an ot mk vs tg su sr kn dn cc n le lt sd rp sh oc k j hj hk hmn hu hw htg hdn hcn (by omega) (by omega) (by omega)) hI hx9
    · exact st_c (lC_O_deliver_nw l dC dI cI cJ cZ cP o0 u pf hpf nn dn n oc le ll li lc kc rp ch ou cn sS lS rS sv rc an dp mn mi vs tg sr kn su k hk hmn hu hw) (lR_R_deliver_nw l dC dI cI cJ cZ cP r cn mn mi nn bf rc sv sb lo fr an ot mk vs tg su sr kn dn cc n le lt sd rp sh oc k hk hmn hu hw) hI hx9

set_option maxHeartbeats 2000000 in
theorem st_renew (l : Launch) (dC : Nat → ClassId) (dI : Nat → Nat → Nat) (cI cJ cZ cP : ClassId) (o0 : Nat) (u r : Nat → Nat) (pf : Nat → Option Nat) (hpf : pf 0 = some (u 1) ∧ pf 1 = some (u 4) ∧ pf 2 = some (u 7)) {x : Nat} {w1 : va_W} {w2 : (Nat → Bool) → va_W} (mk : Nat → Bool) (hx : x < 2 ^ 29) (h : Rel cI cJ cZ cP o0 u r pf x w1 w2)  : Sp_V l dC dI cI cJ cZ cP o0 u r pf mn_O_renew bc_O_renew 2 mn_R_renew bc_R_renew 2 none [] x w1 w2 mk := by
  obtain ⟨cn, mn, mi, nn, sv, rc, an, vs, tg, sr, kn, su, dn, n, oc, le, rp, ll, li, lc, kc, ch, ou, sS, lS, rS, dp, bf, sb, lo, fr, ot, cc, lt, sd, sh, hI, hnn, rfl, rfl⟩ := h
  have hI2 := hI
  obtain ⟨⟨⟨b0, b1, b2⟩, b3, b4, b5, b6, b7, b8, b9, b10, b11, b12⟩, hD, ⟨s1, s2, s3⟩, hP⟩ := hI2
  have hx9 : nn ≤ x + 1 := by omega
  have hmn : mn ≤ 104 := by omega
  have hbf : ∀ k, k < cn → ∀ i, bf k = some i → i < 40 := fun k hk i h => by have := b9 k hk i h; omega
  have hrc : ∀ k, k < cn → rc k < 104 := fun k hk => by have := b8 k hk; omega
  have hsr : ∀ k, k < cn → ∀ i, sr (rc k) = some i → i < 40 := fun k _ i h => b3 _ i h
  have hI9 : Inv 0 0 0 0 rc an tg sr kn su ((va_up (va_up (va_up dn 0 false) (0 + 1) false) (0 + 1 + 1) false)) ((va_up (va_up (va_up n 0 0) (0 + 1) 0) (0 + 1 + 1) 0)) ((va_up (va_up (va_up oc 0 0) (0 + 1) 0) (0 + 1 + 1) 0)) ((va_up (va_up (va_up le 0 0) (0 + 1) 0) (0 + 1 + 1) 0)) ((va_up (va_up (va_up ll 0 0) (0 + 1) 0) (0 + 1 + 1) 0)) ((va_up (va_up (va_up li 0 0) (0 + 1) 0) (0 + 1 + 1) 0)) ((va_up (va_up (va_up lc 0 0) (0 + 1) 0) (0 + 1 + 1) 0)) ((va_up (va_up (va_up kc 0 0) (0 + 1) 0) (0 + 1 + 1) 0)) ch ou 0 0 0 dp bf sb lo fr ot cc ((va_up (va_up (va_up lt 0 none) (0 + 1) none) (0 + 1 + 1) none)) ((va_up (va_up (va_up sd 0 none) (0 + 1) none) (0 + 1 + 1) none)) sh := inv_0 b3 b6 (fun j hj => by
      rcases (show j = 0 ∨ j = 1 ∨ j = 2 by omega) with rfl | rfl | rfl <;> exact ⟨rfl, rfl, rfl, rfl, rfl, rfl, rfl, rfl, rfl⟩)
  exact ⟨_, fun mk => wR r cI cZ 0 0 0 0 bf rc sv sb lo fr an ot mk vs tg su sr kn (va_up (va_up (va_up dn 0 false) (0 + 1) false) (0 + 1 + 1) false) cc (va_up (va_up (va_up n 0 0) (0 + 1) 0) (0 + 1 + 1) 0) (va_up (va_up (va_up le 0 0) (0 + 1) 0) (0 + 1 + 1) 0) (va_up (va_up (va_up lt 0 none) (0 + 1) none) (0 + 1 + 1) none) (va_up (va_up (va_up sd 0 none) (0 + 1) none) (0 + 1 + 1) none) (va_up (va_up (va_up rp 0 (nI 0)) (0 + 1) (nI 0)) (0 + 1 + 1) (nI 0)) sh (va_up (va_up (va_up oc 0 0) (0 + 1) 0) (0 + 1 + 1) 0), _, (lC_O_renew l dC dI cI cJ cZ cP o0 u pf hpf nn dn n oc le ll li lc kc rp ch ou cn sS lS rS sv rc an dp mn mi vs tg sr kn su ), (lR_R_renew l dC dI cI cJ cZ cP r cn mn mi nn bf rc sv sb lo fr an ot mk vs tg su sr kn dn cc n le lt sd rp sh oc ), fun _ => ⟨mk, rfl⟩, 0, 0, 0, 0, _, _, _, _, _, _, _, _, _, _, _, _, _, _, _, _, _, _, _, _, _, _, _, _, _, _, _, _, _, _, _, _, hI9, Nat.zero_le _, rfl, rfl⟩

