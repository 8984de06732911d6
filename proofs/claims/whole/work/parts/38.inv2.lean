def Inv (cn : Nat) (mn : Nat) (mi : Nat) (nn : Nat) (rc : Nat → Nat) (an : Nat → Option Nat) (tg : Nat → Nat) (sr : Nat → Option Nat) (kn : Nat → Nat) (su : Nat → Nat) (dn : Nat → Bool) (n : Nat → Nat) (oc : Nat → Nat) (le : Nat → Nat) (ll : Nat → Int64) (li : Nat → Int64) (lc : Nat → Nat) (kc : Nat → Nat) (ch : Nat → Nat → Nat) (ou : Nat → Nat → Int32) (sS : Int64) (lS : Int64) (rS : Int64) (dp : Nat → Int64) (bf : Nat → Option Nat) (sb : Nat → Bool) (lo : Nat → Bool) (fr : Nat → Nat) (ot : Nat → Bool) (cc : Nat → Nat) (lt : Nat → Option Nat) (sd : Nat → Option Nat) (sh : Nat → Int32) : Prop :=
  iB cn mn mi nn rc sr tg su kn an fr bf ∧ iD cn dp bf rc sr ∧ iS cn sS lS rS sb lo ot ∧ ∀ j, j < 3 → iP j cn nn rc tg an fr bf sb ot cc sh (dn j) (n j) (oc j) (le j) (ll j) (li j) (lc j) (kc j) (ch j) (ou j) (lt j) (sd j)
section IVS
variable {cn : Nat} {mn : Nat} {mi : Nat} {nn : Nat} {rc : Nat → Nat} {an : Nat → Option Nat} {tg : Nat → Nat} {sr : Nat → Option Nat} {kn : Nat → Nat} {su : Nat → Nat} {dn : Nat → Bool} {n : Nat → Nat} {oc : Nat → Nat} {le : Nat → Nat} {ll : Nat → Int64} {li : Nat → Int64} {lc : Nat → Nat} {kc : Nat → Nat} {ch : Nat → Nat → Nat} {ou : Nat → Nat → Int32} {sS : Int64} {lS : Int64} {rS : Int64} {dp : Nat → Int64} {bf : Nat → Option Nat} {sb : Nat → Bool} {lo : Nat → Bool} {fr : Nat → Nat} {ot : Nat → Bool} {cc : Nat → Nat} {lt : Nat → Option Nat} {sd : Nat → Option Nat} {sh : Nat → Int32} {j : Nat}
theorem inv_su (hI : Inv cn mn mi nn rc an tg sr kn su dn n oc le ll li lc kc ch ou sS lS rS dp bf sb lo fr ot cc lt sd sh) {su2 : Nat → Nat} (h : ∀ k, su2 k < 4) : Inv cn mn mi nn rc an tg sr kn su2 dn n oc le ll li lc kc ch ou sS lS rS dp bf sb lo fr ot cc lt sd sh := by
  obtain ⟨⟨b1, b2, b3, b4, b5, b6⟩, hD, hS, hP⟩ := hI
  exact ⟨⟨b1, b2, b3, b4, h, b6⟩, hD, hS, hP⟩

theorem inv_input (hI : Inv cn mn mi nn rc an tg sr kn su dn n oc le ll li lc kc ch ou sS lS rS dp bf sb lo fr ot cc lt sd sh) (hmi : mi < 24) (hj : j < 3) : Inv cn (mn + 1) (mi + 1) nn rc an (va_up tg mn j) (va_up sr mn none) (va_up kn mn 0) (va_up su mn 0) dn n oc le ll li lc kc ch ou sS lS rS dp bf sb lo fr ot cc lt sd sh := by
  obtain ⟨⟨⟨b0, b1, b2⟩, b3, b4, b5, b6, b7, b8, b9, b10, b11, b12⟩, hD, hS, hP⟩ := hI
  have hr : ∀ k, k < cn → rc k ≠ mn := fun k hk => by have := b8 k hk; omega
  refine ⟨⟨⟨b0, by omega, by omega⟩, fun k i h => ?_, fun k hk i h => ?_, fun k hk => ?_, fun k => ?_, fun k hk => ?_, fun k hk => ?_, b9, fun k hk q h => ?_, b11, fun k hk => ?_⟩, fun k hk => ?_, hS, fun i hi => ?_⟩
  · by_cases e : k = mn
    · subst e; rw [va_up_self] at h; cases h
    · rw [va_up_ne _ _ e] at h; exact b3 k i h
  · by_cases e : k = mn
    · subst e; rw [va_up_self] at h; cases h
    · rw [va_up_ne _ _ e] at h; exact b4 k (by omega) i h
  · by_cases e : k = mn
    · subst e; rw [va_up_self]; exact hj
    · rw [va_up_ne _ _ e]; exact b5 k (by omega)
  · by_cases e : k = mn
    · subst e; rw [va_up_self]; decide
    · rw [va_up_ne _ _ e]; exact b6 k
  · by_cases e : k = mn
    · subst e; rw [va_up_self]; exact Nat.zero_le _
    · rw [va_up_ne _ _ e]; exact b7 k (by omega)
  · have := b8 k hk; omega
  · rw [va_up_ne _ _ (hr k hk)] at h; exact b10 k hk q h
  · rw [va_up_ne _ _ (hr k hk)]; exact b12 k hk
  · rw [va_up_ne _ _ (hr k hk)]; exact hD k hk
  · obtain ⟨p1, p2, p3⟩ := hP i hi
    refine ⟨p1, fun k hk => ?_, p3⟩
    obtain ⟨c1, c2, c3, c4, c5⟩ := p2 k hk
    exact ⟨c1, c2, c3, by rw [va_up_ne _ _ (hr _ c2)]; exact c4, c5⟩

theorem inv_flush (hI : Inv cn mn mi nn rc an tg sr kn su dn n oc le ll li lc kc ch ou sS lS rS dp bf sb lo fr ot cc lt sd sh) (hj : j < 3) : Inv cn mn mi nn rc an tg sr kn su dn n oc le ll li lc kc ch ou (sS ||| (cs_set (ch j) (n j) &&& (sS ^^^ (-1)))) lS rS dp bf ((se_S sb (fun i => cc (40 * j + i)) (n j)).2) lo fr ot cc lt sd sh := by
  obtain ⟨hB, hD, ⟨s1, s2⟩, hP⟩ := hI
  have hCj := (hP j hj).2.1
  refine ⟨hB, hD, ⟨fl_set hB.1.1 hCj s1, s2⟩, fun i hi => ?_⟩
  obtain ⟨p1, p2, p3, p4⟩ := hP i hi
  by_cases e : i = j
  · subst e
    exact ⟨p1, p2, fl_K0 hCj p3, p4⟩
  · exact ⟨p1, p2, fl_K p2 hCj e p3, p4⟩

theorem inv_check (hI : Inv cn mn mi nn rc an tg sr kn su dn n oc le ll li lc kc ch ou sS lS rS dp bf sb lo fr ot cc lt sd sh) (hj : j < 3) : Inv cn mn mi nn rc an tg sr kn su dn n oc le ll li (va_up lc j (n j)) (va_up kc j (if lc j = n j then kc j else lc j)) ch ou (sS ||| (cs_set (ch j) (n j) &&& (sS ^^^ (-1)))) lS rS dp bf ((se_S sb (fun i => cc (40 * j + i)) (n j)).2) lo fr ot cc (ck_L lt j (n j)) (ck_S lt sd j (n j)) sh := by
  obtain ⟨hB, hD, ⟨s1, s2⟩, hP⟩ := hI
  have hCj := (hP j hj).2.1
  refine ⟨hB, hD, ⟨fl_set hB.1.1 hCj s1, s2⟩, fun i hi => ?_⟩
  obtain ⟨p1, p2, p3, p4⟩ := hP i hi
  by_cases e : i = j
  · subst e
    refine ⟨p1, p2, ?_, p4⟩
    rw [va_up_self, va_up_self]
    have e1 : ck_L lt i (n i) i = if lt i = some (n i) then lt i else some (n i) := by
      unfold ck_L
      split
      · rfl
      · exact va_up_self _ _ _
    have e2 : ck_S lt sd i (n i) i = if lt i = some (n i) then sd i else lt i := by
      unfold ck_S
      split
      · rfl
      · exact va_up_self _ _ _
    rw [e1, e2]
    exact ck_K hCj p3
  · refine ⟨p1, p2, ?_, p4⟩
    rw [va_up_ne _ _ e, va_up_ne _ _ e]
    have e1 : ck_L lt j (n j) i = lt i := by
      unfold ck_L
      split
      · rfl
      · exact va_up_ne _ _ e
    have e2 : ck_S lt sd j (n j) i = sd i := by
      unfold ck_S
      split
      · rfl
      · exact va_up_ne _ _ e
    rw [e1, e2]
    exact fl_K p2 hCj e p3

theorem inv_crash (hI : Inv cn mn mi nn rc an tg sr kn su dn n oc le ll li lc kc ch ou sS lS rS dp bf sb lo fr ot cc lt sd sh) (hj : j < 3) (hdn : dn j = false) {m : Nat} (hm : m ≤ n j) (hs : ∀ k, k < n j → sb (ch j k) = decide (k < m)) (hlt : ∀ x, lt j = some x → x ≤ m) : Inv cn mn mi nn rc an tg sr kn (lz_F su (fun i => rc (ch j i)) m 2 (n j - m)) (va_up dn j true) (va_up n j m) oc le ll (va_up li j (cs_set (ch j) (n j) &&& (sS ^^^ (-1)))) lc kc ch ou sS (lS ||| (cs_set (ch j) (n j) &&& (sS ^^^ (-1)))) rS dp bf sb (lz_F lo (ch j) m true (n j - m)) (lz_F fr (ch j) m j (n j - m)) ot cc lt sd sh := by
  obtain ⟨⟨b1, b2, b3, b4, b5, b6, b7, b8, b9, b10, b11⟩, hD, ⟨s1, s2, s3⟩, hP⟩ := hI
  have hPj := hP j hj
  have hCj := hPj.2.1
  have hlt2 : ∀ k, k < n j → ch j k < cn := fun k hk => (hCj k hk).2.1
  have hgo := gone_iff b1.1 hlt2 hm hs s1
  have hin : ∀ k, (∃ i, i < n j - m ∧ ch j (m + i) = k) → fr k = 3 ∧ an k = none ∧ tg (rc k) = j ∧ k < cn := by
    rintro k ⟨i, h1, rfl⟩
    obtain ⟨c1, c2, c3, c4, c5, c6⟩ := hCj (m + i) (by omega)
    exact ⟨c5, c6, c4, c2⟩
  refine ⟨⟨b1, b2, b3, b4, lz_4 (by decide) b5 _, b6, b7, b8, b9, b10, fun k hk => ?_⟩, hD, ⟨s1, fun k => ?_, s3⟩, fun i hi => ?_⟩
  · by_cases e : ∃ i, i < n j - m ∧ ch j (m + i) = k
    · rw [lz_in e]
      exact Or.inr ⟨(hin k e).2.2.1.symm, (hin k e).2.1⟩
    · rw [lz_out (fun i hi q => e ⟨i, hi, q⟩)]
      exact b11 k hk
  · rw [Bool.eq_iff_iff, tb_or, Bool.or_eq_true, hgo, s2, Bool.and_eq_true, Bool.and_eq_true, decide_eq_true_iff]
    by_cases e : ∃ i, i < n j - m ∧ ch j (m + i) = k
    · rw [lz_in e]
      exact ⟨fun _ => ⟨(hin k e).2.2.2, rfl⟩, fun _ => Or.inr e⟩
    · rw [lz_out (fun i hi q => e ⟨i, hi, q⟩)]
      exact ⟨fun q => q.elim id (fun z => absurd z e), Or.inl⟩
  · obtain ⟨p1, p2, p3, p4, p5⟩ := hP i hi
    by_cases e : i = j
    · subst e
      simp only [va_up_self]
      refine ⟨⟨by omega, p1.2⟩, fun k hk => ?_, ⟨⟨m, Nat.le_refl _, fun k hk => hs k (by omega), hlt⟩, p3.2⟩, ⟨p4.1, fun _ k => ?_, fun q => by cases q⟩, p5⟩
      · obtain ⟨c1, c2, c3, c4, c5, c6⟩ := p2 k (by omega)
        refine ⟨c1, c2, c3, c4, ?_, c6⟩
        rw [lz_out (fun z hz q => ?_)]
        · exact c5
        · have := ch_inj b8 p2 (m + z) k (by omega) (by omega) q
          omega
      · rw [Bool.eq_iff_iff, hgo, Bool.and_eq_true, decide_eq_true_iff, decide_eq_true_iff]
        by_cases e : ∃ z, z < n i - m ∧ ch i (m + z) = k
        · rw [lz_in e]
          exact ⟨fun _ => ⟨(hin k e).2.2.2, rfl⟩, fun _ => e⟩
        · rw [lz_out (fun z hz q => e ⟨z, hz, q⟩)]
          exact ⟨fun q => absurd q e, fun q => absurd q.2 (p4.2.2 hdn k q.1)⟩
    · simp only [va_up_ne _ _ e]
      have key : ∀ k, k < cn → (lz_F fr (ch j) m j (n j - m) k = i ↔ fr k = i) := by
        intro k hk
        by_cases q : ∃ z, z < n j - m ∧ ch j (m + z) = k
        · rw [lz_in q, (hin k q).1]
          constructor
          · intro z; exact absurd z.symm e
          · intro z; omega
        · rw [lz_out (fun z hz q2 => q ⟨z, hz, q2⟩)]
      refine ⟨p1, fun k hk => ?_, p3, ⟨p4.1, fun hd k => ?_, fun hd k hk q => p4.2.2 hd k hk ((key k hk).mp q)⟩, p5⟩
      · obtain ⟨c1, c2, c3, c4, c5, c6⟩ := p2 k hk
        refine ⟨c1, c2, c3, c4, ?_, c6⟩
        rw [lz_out (fun z hz q => ?_)]
        · exact c5
        · have a := (hin (ch i k) ⟨z, hz, q⟩).2.2.1
          rw [c4] at a
          exact e a
      · rw [p4.2.1 hd k]
        by_cases hk : k < cn
        · simp only [key k hk]
        · simp [hk]

theorem inv_cut (hI : Inv cn mn mi nn rc an tg sr kn su dn n oc le ll li lc kc ch ou sS lS rS dp bf sb lo fr ot cc lt sd sh) (hj : j < 3) {n2 le2 lc2 kc2 : Nat} {ll2 : Int64} {lt2 sd2 : Nat → Option Nat} {su2 : Nat → Nat} (hn : n2 ≤ n j) (hle : le2 ≤ nn) (hll : ∀ k, tb ll2 k = (decide (k < cn) && inO (an k) 0 le2)) (hK : iK n2 (ch j) sb (lt2 j) (sd2 j) lc2 kc2) (ho : ∀ i, i ≠ j → lt2 i = lt i ∧ sd2 i = sd i) (hsu : ∀ k, su2 k < 4) : Inv cn mn mi nn rc an tg sr kn su2 dn (va_up n j n2) oc (va_up le j le2) (va_up ll j ll2) li (va_up lc j lc2) (va_up kc j kc2) ch ou sS lS rS dp bf sb lo fr ot cc lt2 sd2 sh := by
  obtain ⟨⟨b1, b2, b3, b4, b5, b6⟩, hD, hS, hP⟩ := hI
  refine ⟨⟨b1, b2, b3, b4, hsu, b6⟩, hD, hS, fun i hi => ?_⟩
  obtain ⟨p1, p2, p3, p4, p5⟩ := hP i hi
  by_cases e : i = j
  · subst e
    simp only [va_up_self]
    exact ⟨⟨by omega, hle, p1.2.2⟩, fun k hk => p2 k (by omega), hK, ⟨hll, p4.2⟩, p5⟩
  · simp only [va_up_ne _ _ e, (ho i e).1, (ho i e).2]
    exact ⟨p1, p2, p3, p4, p5⟩

theorem inv_ann (hI : Inv cn mn mi nn rc an tg sr kn su dn n oc le ll li lc kc ch ou sS lS rS dp bf sb lo fr ot cc lt sd sh) (hj : j < 3) (hdn : dn j = true) : Inv cn mn mi (nn + 1) rc (ra_F an fr j nn cn) tg sr kn su (va_up dn j false) n oc le ll li lc kc ch ou sS lS rS dp bf sb lo (rf_F fr j cn) ot cc lt sd sh := by
  obtain ⟨⟨b1, b2, b3, b4, b5, b6, b7, b8, b9, b10, b11⟩, hD, hS, hP⟩ := hI
  refine ⟨⟨b1, b2, b3, b4, b5, fun k hk => Nat.le_succ_of_le (b6 k hk), b7, b8, b9, fun k hk a h => ?_, fun k hk => ?_⟩, hD, hS, fun i hi => ?_⟩
  · by_cases e : fr k = j
    · rw [ra_in hk e] at h; cases h; omega
    · rw [ra_out e] at h; have := b10 k hk a h; omega
  · by_cases e : fr k = j
    · exact Or.inl (rf_in hk e)
    · rw [rf_out e, ra_out e]; exact b11 k hk
  · obtain ⟨p1, p2, p3, p4, p5⟩ := hP i hi
    have hC2 : iC i cn (n i) (ch i) cc bf rc tg (rf_F fr j cn) (ra_F an fr j nn cn) := fun k hk => by
      obtain ⟨c1, c2, c3, c4, c5, c6⟩ := p2 k hk
      have e : ¬ fr (ch i k) = j := by omega
      exact ⟨c1, c2, c3, c4, by rw [rf_out e]; exact c5, by rw [ra_out e]; exact c6⟩
    have hL2 : ∀ k, tb (ll i) k = (decide (k < cn) && inO (ra_F an fr j nn cn k) 0 (le i)) := fun k => by
      rw [p4.1 k]
      by_cases hk : k < cn
      · by_cases e : fr k = j
        · rw [ra_in hk e]
          have h1 : an k = none := by
            rcases b11 k hk with h | h
            · omega
            · exact h.2
          rw [h1]
          have : ¬ nn < le i := by have := p1.2.1; omega
          simp [inO, this]
        · rw [ra_out e]
      · simp [hk]
    refine ⟨⟨p1.1, Nat.le_succ_of_le p1.2.1, p1.2.2⟩, hC2, p3, ⟨hL2, fun hd k => ?_, fun hd k hk q => ?_⟩, p5⟩
    · by_cases e : i = j
      · subst e; rw [va_up_self] at hd; cases hd
      · rw [va_up_ne _ _ e] at hd
        rw [p4.2.1 hd k]
        by_cases hk : k < cn
        · by_cases q : fr k = j
          · rw [rf_in hk q, q]
            have a1 : ¬ j = i := fun z => e z.symm
            have a2 : ¬ 3 = i := by omega
            simp [a1, a2]
          · rw [rf_out q]
        · simp [hk]
    · by_cases z : fr k = j
      · rw [rf_in hk z] at q; omega
      · rw [rf_out z] at q
        by_cases e : i = j
        · subst e; exact z q
        · rw [va_up_ne _ _ e] at hd; exact p4.2.2 hd k hk q

theorem inv_rel (hI : Inv cn mn mi nn rc an tg sr kn su dn n oc le ll li lc kc ch ou sS lS rS dp bf sb lo fr ot cc lt sd sh) (hj : j < 3) {rS2 : Int64} {oc2 : Nat} {ou2 : Nat → Int32} {ot2 : Nat → Bool} {sh2 : Nat → Int32} (h2 : ∀ t, tb rS2 t = (decide (t < cn) && ot2 t)) (h3 : ∀ i, i < oc2 → ou2 i = sh2 (40 * j + i)) (h4 : oc2 ≤ ct ot2 cn) (h5 : ct ot cn ≤ ct ot2 cn) (h6 : ∀ i, i ≠ j → ∀ z, z < 40 → sh2 (40 * i + z) = sh (40 * i + z)) : Inv cn mn mi nn rc an tg sr kn su dn n (va_up oc j oc2) le ll li lc kc ch (va_up ou j ou2) sS lS rS2 dp bf sb lo fr ot2 cc lt sd sh2 := by
  obtain ⟨hB, hD, ⟨s1, s2, s3⟩, hP⟩ := hI
  refine ⟨hB, hD, ⟨s1, s2, h2⟩, fun i hi => ?_⟩
  obtain ⟨p1, p2, p3, p4, p5⟩ := hP i hi
  by_cases e : i = j
  · subst e
    simp only [va_up_self]
    exact ⟨⟨p1.1, p1.2.1, h4⟩, p2, p3, p4, h3⟩
  · simp only [va_up_ne _ _ e]
    refine ⟨⟨p1.1, p1.2.1, Nat.le_trans p1.2.2 h5⟩, p2, p3, p4, fun k hk => ?_⟩
    have h7 := ct_le ot cn
    have h8 := p1.2.2
    have h9 := hB.1.1
    rw [h6 i e k (by omega)]
    exact p5 k hk
end IVS
