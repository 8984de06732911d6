theorem s1_any {α : Type} (b : Bool) (f : Nat → α) (n : Nat) (v : α) (q : Nat) : s1_F b f n v q = f q ∨ s1_F b f n v q = v := by
  unfold s1_F
  split
  · by_cases e : q = n
    · subst e; exact Or.inr (va_up_self _ _ _)
    · exact Or.inl (va_up_ne _ _ e)
  · exact Or.inl rfl
theorem sd_any {α : Type} (b1 b2 : Bool) (f : Nat → α) (n : Nat) (v1 v2 : α) (q : Nat) : sd_F b1 b2 f n v1 v2 q = f q ∨ sd_F b1 b2 f n v1 v2 q = v1 ∨ sd_F b1 b2 f n v1 v2 q = v2 := by
  unfold sd_F
  rcases s1_any b2 (s1_F b1 f n v1) (n + b1.toNat) v2 q with h | h
  · rw [h]
    rcases s1_any b1 f n v1 q with h2 | h2
    · exact Or.inl h2
    · exact Or.inr (Or.inl h2)
  · exact Or.inr (Or.inr h)
theorem sd_new {α : Type} (b1 b2 : Bool) (f : Nat → α) (n : Nat) (v1 v2 : α) (q : Nat) (h1 : n ≤ q) (h2 : q < n + b1.toNat + b2.toNat) : sd_F b1 b2 f n v1 v2 q = v1 ∨ sd_F b1 b2 f n v1 v2 q = v2 := by
  unfold sd_F s1_F
  cases b1 <;> cases b2
  · simp at h2; omega
  · have e : q = n := by simp at h2; omega
    subst e
    exact Or.inr (by simp [va_up])
  · have e : q = n := by simp at h2; omega
    subst e
    exact Or.inl (by simp [va_up])
  · by_cases e : q = n
    · subst e
      exact Or.inl (by simp [va_up])
    · have e : q = n + 1 := by simp at h2; omega
      subst e
      exact Or.inr (by simp [va_up])
theorem inv_recv {cn : Nat} {mn : Nat} {mi : Nat} {nn : Nat} {rc : Nat → Nat} {an : Nat → Option Nat} {tg : Nat → Nat} {sr : Nat → Option Nat} {kn : Nat → Nat} {su : Nat → Nat} {dn : Nat → Bool} {n : Nat → Nat} {oc : Nat → Nat} {le : Nat → Nat} {ll : Nat → Int64} {li : Nat → Int64} {lc : Nat → Nat} {kc : Nat → Nat} {ch : Nat → Nat → Nat} {ou : Nat → Nat → Int32} {sS : Int64} {lS : Int64} {rS : Int64} {dp : Nat → Int64} {bf : Nat → Option Nat} {sb : Nat → Bool} {lo : Nat → Bool} {fr : Nat → Nat} {ot : Nat → Bool} {cc : Nat → Nat} {lt : Nat → Option Nat} {sd : Nat → Option Nat} {sh : Nat → Int32} {j : Nat} (hI : Inv cn mn mi nn rc an tg sr kn su dn n oc le ll li lc kc ch ou sS lS rS dp bf sb lo fr ot cc lt sd sh) {k : Nat} (b1 b2 : Bool) (hj : j < 3) (hk : k < mn) (htg : tg k = j) (hcn : cn < 40) : Inv (cn + 1) (mn + b1.toNat + b2.toNat) mi nn (va_up rc cn k) (va_up an cn none) (sd_F b1 b2 tg mn ((j + 1) % 3) ((j + 2) % 3)) (sd_F b1 b2 sr mn (some cn) (some cn)) (sd_F b1 b2 kn mn (le j) (le j)) (sd_F b1 b2 (va_up su k 1) mn 0 0) dn (va_up n j (n j + 1)) oc le ll li lc kc (va_up ch j (va_up (ch j) (n j) cn)) ou sS lS rS (va_up dp cn ((dae dp (ch j) (n j) ||| dsv sr dp k) ||| bt cn)) (va_up bf cn (bv_O cc j (n j))) (va_up sb cn false) (va_up lo cn false) (va_up fr cn 3) (va_up ot cn false) (va_up cc (40 * j + n j) cn) lt sd sh := by
  obtain ⟨⟨⟨b0, b1', b2'⟩, b3, b4, b5, b6, b7, b8, b9, b10, b11, b12⟩, hD, ⟨s1, s2, s3⟩, hP⟩ := hI
  have hb1 := sb_le b1
  have hb2 := sb_le b2
  obtain ⟨⟨pj1, pj2, pj3⟩, cj, kj, lj, oj⟩ := hP j hj
  have hne : ∀ q, q < cn → q ≠ cn := fun q h => by omega
  have rcv : ∀ q, q < cn → va_up rc cn k q = rc q := fun q h => va_up_ne _ _ (hne q h)
  have tgv : ∀ q, q < mn → sd_F b1 b2 tg mn ((j + 1) % 3) ((j + 2) % 3) q = tg q := fun q h => sd_F_lt _ _ _ _ h
  have srv : ∀ q, q < mn → sd_F b1 b2 sr mn (some cn) (some cn) q = sr q := fun q h => sd_F_lt _ _ _ _ h
  have bfb : ∀ b, bv_O cc j (n j) = some b → b < cn := by
    intro b h
    unfold bv_O at h
    split at h
    · cases h
    · cases h
      have h1 := cj (n j - 1) (by omega)
      have h2 : 40 * j + n j - 1 = 40 * j + (n j - 1) := by omega
      rw [h2, ← h1.1]
      exact h1.2.1
  have bfp : bv_O cc j (n j) = prv (ch j) (n j) := by
    unfold bv_O
    cases hn : n j with
    | zero => rfl
    | succ q =>
      rw [if_neg (by omega), show 40 * j + (q + 1) - 1 = 40 * j + q by omega, ← (cj q (by omega)).1]
      rfl
  have dpn : ∀ o : Option Nat, (∀ b, o = some b → b < cn) → dpo (va_up dp cn ((dae dp (ch j) (n j) ||| dsv sr dp k) ||| bt cn)) o = dpo dp o := by
    intro o ho
    cases o with
    | none => rfl
    | some b => exact va_up_ne _ _ (hne b (ho b rfl))
  have prvp : ∀ q, q ≤ n j → prv (va_up (ch j) (n j) cn) q = prv (ch j) q := by
    intro q hq
    cases q with
    | zero => rfl
    | succ q => exact congrArg some (va_up_ne _ _ (by omega))
  refine ⟨⟨⟨by omega, b1', by omega⟩, fun q i h => ?_, fun q hq i h => ?_, fun q hq => ?_, fun q => ?_, fun q hq => ?_, fun q hq => ?_, fun q hq b h => ?_, fun q hq i h => ?_, fun q hq a h => ?_, fun q hq => ?_⟩, fun q hq => ?_, ⟨fun q => ?_, fun q => ?_, fun q => ?_⟩, fun i hi => ?_⟩
  · rcases sd_any b1 b2 sr mn (some cn) (some cn) q with e | e | e
    · rw [e] at h; exact b3 q i h
    · rw [e] at h; cases h; exact hcn
    · rw [e] at h; cases h; exact hcn
  · by_cases e : q < mn
    · rw [srv q e] at h; have := b4 q e i h; omega
    · rcases sd_new b1 b2 sr mn (some cn) (some cn) q (by omega) hq with e | e
      · rw [e] at h; cases h; omega
      · rw [e] at h; cases h; omega
  · by_cases e : q < mn
    · rw [tgv q e]; exact b5 q e
    · rcases sd_new b1 b2 tg mn ((j + 1) % 3) ((j + 2) % 3) q (by omega) hq with e | e
      · rw [e]; omega
      · rw [e]; omega
  · rcases sd_any b1 b2 (va_up su k 1) mn 0 0 q with e | e | e
    · rw [e]
      by_cases e2 : q = k
      · subst e2; rw [va_up_self]; decide
      · rw [va_up_ne _ _ e2]; exact b6 q
    · rw [e]; decide
    · rw [e]; decide
  · by_cases e : q < mn
    · rw [sd_F_lt _ _ _ _ e]; exact b7 q e
    · rcases sd_new b1 b2 kn mn (le j) (le j) q (by omega) hq with e | e
      · rw [e]; exact pj2
      · rw [e]; exact pj2
  · by_cases e : q = cn
    · subst e; rw [va_up_self]; omega
    · rw [va_up_ne _ _ e]; have := b8 q (by omega); omega
  · by_cases e : q = cn
    · subst e; rw [va_up_self] at h; exact bfb b h
    · rw [va_up_ne _ _ e] at h; exact b9 q (by omega) b h
  · by_cases e : q = cn
    · subst e; rw [va_up_self, srv k hk] at h; exact b4 k hk i h
    · rw [va_up_ne _ _ e, srv _ (b8 q (by omega))] at h; exact b10 q (by omega) i h
  · by_cases e : q = cn
    · subst e; rw [va_up_self] at h; cases h
    · rw [va_up_ne _ _ e] at h; exact b11 q (by omega) a h
  · by_cases e : q = cn
    · subst e; rw [va_up_self]; exact Or.inl rfl
    · rw [va_up_ne _ _ e, va_up_ne _ _ e, va_up_ne _ _ e, tgv _ (b8 q (by omega))]; exact b12 q (by omega)
  · by_cases e : q = cn
    · subst e
      rw [va_up_self, va_up_self, va_up_self, srv k hk, dpn _ bfb, dpn _ (fun b h => b4 k hk b h), dsv_eq, bfp]
      congr 2
      unfold dae
      cases n j with
      | zero => rfl
      | succ z => rfl
    · have hq2 : q < cn := by omega
      rw [va_up_ne _ _ e, va_up_ne _ _ e, va_up_ne _ _ e, srv _ (b8 q hq2), dpn _ (fun b h => by have := b9 q hq2 b h; omega), dpn _ (fun b h => by have := b10 q hq2 b h; omega)]
      exact hD q hq2
  · rw [s1]
    by_cases e : q = cn
    · subst e; rw [va_up_self]; simp
    · rw [va_up_ne _ _ e, show decide (q < cn + 1) = decide (q < cn) by rw [Bool.eq_iff_iff]; simp only [decide_eq_true_iff]; omega]
  · rw [s2]
    by_cases e : q = cn
    · subst e; rw [va_up_self]; simp
    · rw [va_up_ne _ _ e, show decide (q < cn + 1) = decide (q < cn) by rw [Bool.eq_iff_iff]; simp only [decide_eq_true_iff]; omega]
  · rw [s3]
    by_cases e : q = cn
    · subst e; rw [va_up_self]; simp
    · rw [va_up_ne _ _ e, show decide (q < cn + 1) = decide (q < cn) by rw [Bool.eq_iff_iff]; simp only [decide_eq_true_iff]; omega]
  · obtain ⟨⟨p1, p2, p3⟩, pc, pk, pl, po⟩ := hP i hi
    have hot : ct ot cn ≤ ct (va_up ot cn false) (cn + 1) := by
      show _ ≤ ct (va_up ot cn false) cn + _
      rw [ct_cong (g := ot) (fun z hz => va_up_ne _ _ (by omega))]
      omega
    have hL : ∀ z, tb (ll i) z = (decide (z < cn + 1) && inO (va_up an cn none z) 0 (le i)) := by
      intro z
      rw [pl.1 z]
      by_cases e : z = cn
      · subst e; rw [va_up_self]; simp [inO]
      · rw [va_up_ne _ _ e, show decide (z < cn + 1) = decide (z < cn) by rw [Bool.eq_iff_iff]; simp only [decide_eq_true_iff]; omega]
    have hL2 : dn i = true → ∀ z, tb (li i) z = (decide (z < cn + 1) && decide (va_up fr cn 3 z = i)) := by
      intro hd z
      rw [pl.2.1 hd z]
      by_cases e : z = cn
      · subst e
        rw [va_up_self]
        have a : ¬ 3 = i := by omega
        simp [a]
      · rw [va_up_ne _ _ e, show decide (z < cn + 1) = decide (z < cn) by rw [Bool.eq_iff_iff]; simp only [decide_eq_true_iff]; omega]
    have hL3 : dn i = false → ∀ z, z < cn + 1 → va_up fr cn 3 z ≠ i := by
      intro hd z hz
      by_cases e : z = cn
      · subst e; rw [va_up_self]; omega
      · rw [va_up_ne _ _ e]; exact pl.2.2 hd z (by omega)
    have old : ∀ z, z < n i → (i ≠ j ∨ z < n j) → ch i z = va_up cc (40 * j + n j) cn (40 * i + z) ∧ ch i z < cn + 1 ∧ va_up bf cn (bv_O cc j (n j)) (ch i z) = prv (ch i) z ∧ sd_F b1 b2 tg mn ((j + 1) % 3) ((j + 2) % 3) (va_up rc cn k (ch i z)) = i ∧ va_up fr cn 3 (ch i z) = 3 ∧ va_up an cn none (ch i z) = none := by
      intro z hz hij
      obtain ⟨c1, c2, c3, c4, c5, c6⟩ := pc z hz
      have e : ch i z ≠ cn := hne _ c2
      rw [va_up_ne _ _ e, va_up_ne _ _ e, va_up_ne _ _ e, va_up_ne _ _ e, tgv _ (b8 _ c2), va_up_ne _ _ (by omega)]
      exact ⟨c1, by omega, c3, c4, c5, c6⟩
    by_cases e : i = j
    · subst e
      simp only [va_up_self]
      refine ⟨⟨by omega, p2, Nat.le_trans p3 hot⟩, fun z hz => ?_, ?_, ⟨hL, hL2, hL3⟩, po⟩
      · by_cases ez : z = n i
        · subst ez
          rw [va_up_self, va_up_self, va_up_self, va_up_self, va_up_self, va_up_self, bfp, prvp _ (Nat.le_refl _), tgv k hk]
          exact ⟨rfl, by omega, rfl, htg, rfl, rfl⟩
        · have h1 := old z (by omega) (Or.inr (by omega))
          rw [va_up_ne _ _ ez, prvp z (by omega)]
          exact h1
      · obtain ⟨⟨m, h1, h2, h3⟩, h4⟩ := pk
        refine ⟨⟨m, by omega, fun z hz => ?_, h3⟩, h4⟩
        by_cases ez : z = n i
        · subst ez
          rw [va_up_self, va_up_self]
          have : ¬ n i < m := by omega
          simp [this]
        · rw [va_up_ne _ _ ez, va_up_ne _ _ (hne _ (pc z (by omega)).2.1)]
          exact h2 z (by omega)
    · simp only [va_up_ne _ _ e]
      refine ⟨⟨by omega, p2, Nat.le_trans p3 hot⟩, fun z hz => old z hz (Or.inl e), ?_, ⟨hL, hL2, hL3⟩, po⟩
      obtain ⟨⟨m, h1, h2, h3⟩, h4⟩ := pk
      refine ⟨⟨m, by omega, fun z hz => ?_, h3⟩, h4⟩
      rw [va_up_ne _ _ (hne _ (pc z hz).2.1)]
      exact h2 z hz
theorem inv_0 {rc : Nat → Nat} {an : Nat → Option Nat} {tg : Nat → Nat} {sr : Nat → Option Nat} {kn : Nat → Nat} {su : Nat → Nat} {dn : Nat → Bool} {n : Nat → Nat} {oc : Nat → Nat} {le : Nat → Nat} {ll : Nat → Int64} {li : Nat → Int64} {lc : Nat → Nat} {kc : Nat → Nat} {ch : Nat → Nat → Nat} {ou : Nat → Nat → Int32} {dp : Nat → Int64} {bf : Nat → Option Nat} {sb : Nat → Bool} {lo : Nat → Bool} {fr : Nat → Nat} {ot : Nat → Bool} {cc : Nat → Nat} {lt : Nat → Option Nat} {sd : Nat → Option Nat} {sh : Nat → Int32} (hs : ∀ k i, sr k = some i → i < 40) (hu : ∀ k, su k < 4) (h : ∀ j, j < 3 → dn j = false ∧ n j = 0 ∧ oc j = 0 ∧ le j = 0 ∧ ll j = 0 ∧ lc j = 0 ∧ kc j = 0 ∧ lt j = none ∧ sd j = none) : Inv 0 0 0 0 rc an tg sr kn su dn n oc le ll li lc kc ch ou 0 0 0 dp bf sb lo fr ot cc lt sd sh := by
  refine ⟨⟨⟨by omega, by omega, by omega⟩, hs, fun k hk => by omega, fun k hk => by omega, hu, fun k hk => by omega, fun k hk => by omega, fun k hk => by omega, fun k hk => by omega, fun k hk => by omega, fun k hk => by omega⟩, fun k hk => by omega, ⟨fun k => by rw [tb_0]; simp, fun k => by rw [tb_0]; simp, fun k => by rw [tb_0]; simp⟩, fun j hj => ?_⟩
  obtain ⟨h1, h2, h3, h4, h5, h6, h7, h8, h9⟩ := h j hj
  rw [h1, h2, h3, h4, h5, h6, h7, h8, h9]
  refine ⟨⟨by omega, by omega, by omega⟩, fun k hk => by omega, ⟨⟨0, by omega, fun k hk => by omega, fun x hx => by cases hx⟩, rfl, rfl, fun y hy => by cases hy⟩, ⟨fun k => by rw [tb_0]; simp, (fun q => by cases q), fun _ k hk => by omega⟩, fun k hk => by omega⟩

