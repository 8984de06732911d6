-- ===== what holds between the class and the reference =====
def prv (ch : Nat → Nat) : Nat → Option Nat
  | 0 => none
  | k + 1 => some (ch k)
def iB (cn mn mi nn : Nat) (rc : Nat → Nat) (sr : Nat → Option Nat) (tg su kn : Nat → Nat) (an : Nat → Option Nat) (fr : Nat → Nat) (bf : Nat → Option Nat) : Prop :=
  (cn ≤ 40 ∧ mi ≤ 24 ∧ mn ≤ mi + 2 * cn) ∧ (∀ k i, sr k = some i → i < 40) ∧ (∀ k, k < mn → ∀ i, sr k = some i → i < cn) ∧ (∀ k, k < mn → tg k < 3) ∧ (∀ k, su k < 4) ∧ (∀ k, k < mn → kn k ≤ nn) ∧
  (∀ k, k < cn → rc k < mn) ∧ (∀ k, k < cn → ∀ b, bf k = some b → b < k) ∧ (∀ k, k < cn → ∀ q, sr (rc k) = some q → q < k) ∧ (∀ k, k < cn → ∀ a, an k = some a → a < nn) ∧ (∀ k, k < cn → fr k = 3 ∨ (fr k = tg (rc k) ∧ an k = none))
def iS (cn : Nat) (sS lS rS : Int64) (sb lo ot : Nat → Bool) : Prop := (∀ k, tb sS k = (decide (k < cn) && sb k)) ∧ (∀ k, tb lS k = (decide (k < cn) && lo k)) ∧ (∀ k, tb rS k = (decide (k < cn) && ot k))
def iC (j cn n : Nat) (ch cc : Nat → Nat) (bf : Nat → Option Nat) (rc tg fr : Nat → Nat) (an : Nat → Option Nat) : Prop := ∀ k, k < n → ch k = cc (40 * j + k) ∧ ch k < cn ∧ bf (ch k) = prv ch k ∧ tg (rc (ch k)) = j ∧ fr (ch k) = 3 ∧ an (ch k) = none
def iK (n : Nat) (ch : Nat → Nat) (sb : Nat → Bool) (lt sd : Option Nat) (lc kc : Nat) : Prop := (∃ m, m ≤ n ∧ (∀ k, k < n → sb (ch k) = decide (k < m)) ∧ (∀ x, lt = some x → x ≤ m)) ∧ lc = lt.getD 0 ∧ kc = sd.getD 0 ∧ (∀ y, sd = some y → ∃ x, lt = some x ∧ y ≤ x)
def iL (j cn : Nat) (an : Nat → Option Nat) (fr : Nat → Nat) (le : Nat) (dn : Bool) (ll li : Int64) : Prop := (∀ k, tb ll k = (decide (k < cn) && inO (an k) 0 le)) ∧ (dn = true → ∀ k, tb li k = (decide (k < cn) && decide (fr k = j))) ∧ (dn = false → ∀ k, k < cn → fr k ≠ j)
def iP (j cn nn : Nat) (rc tg : Nat → Nat) (an : Nat → Option Nat) (fr : Nat → Nat) (bf : Nat → Option Nat) (sb ot : Nat → Bool) (cc : Nat → Nat) (sh : Nat → Int32) (dn : Bool) (n oc le : Nat) (ll li : Int64) (lc kc : Nat) (ch : Nat → Nat) (ou : Nat → Int32) (lt sd : Option Nat) : Prop :=
  (n ≤ cn ∧ le ≤ nn ∧ oc ≤ ct ot cn) ∧ iC j cn n ch cc bf rc tg fr an ∧ iK n ch sb lt sd lc kc ∧ iL j cn an fr le dn ll li ∧ (∀ k, k < oc → ou k = sh (40 * j + k))
section INV
variable {j cn mn mi nn n oc le lc kc : Nat} {rc tg su kn fr cc ch : Nat → Nat} {sr an bf : Nat → Option Nat} {sb lo ot : Nat → Bool} {sS lS rS ll li : Int64} {lt sd : Option Nat} {dn : Bool} {dp : Nat → Int64}
theorem ch_up (hb : ∀ k, k < cn → ∀ b, bf k = some b → b < k) (hC : iC j cn n ch cc bf rc tg fr an) {k : Nat} (hk : k + 1 < n) : ch k < ch (k + 1) := hb _ (hC (k + 1) hk).2.1 _ (hC (k + 1) hk).2.2.1
theorem ch_lt (hb : ∀ k, k < cn → ∀ b, bf k = some b → b < k) (hC : iC j cn n ch cc bf rc tg fr an) : ∀ (d i : Nat), i + d + 1 < n → ch i < ch (i + d + 1)
  | 0, i, h => ch_up hb hC h
  | d + 1, i, h => Nat.lt_trans (ch_lt hb hC d i (by omega)) (ch_up hb hC (k := i + d + 1) h)
theorem ch_mono (hb : ∀ k, k < cn → ∀ b, bf k = some b → b < k) (hC : iC j cn n ch cc bf rc tg fr an) {i k : Nat} (h : i < k) (hk : k < n) : ch i < ch k := by
  have := ch_lt hb hC (k - i - 1) i (by omega)
  rwa [show i + (k - i - 1) + 1 = k by omega] at this
theorem ch_inj (hb : ∀ k, k < cn → ∀ b, bf k = some b → b < k) (hC : iC j cn n ch cc bf rc tg fr an) (i k : Nat) (hi : i < n) (hk : k < n) (e : ch i = ch k) : i = k := by
  rcases Nat.lt_trichotomy i k with h | h | h
  · have := ch_mono hb hC h hk; omega
  · exact h
  · have := ch_mono hb hC h hi; omega
theorem se_iff {f : Nat → Nat} : ∀ {n : Nat} (k : Nat), (se_S sb f n).2 k = true ↔ sb k = true ∨ ∃ i, i < n ∧ f i = k
  | 0, k => by
    unfold se_S
    constructor
    · exact Or.inl
    · rintro (h | ⟨i, h, _⟩)
      · exact h
      · omega
  | n + 1, k => by
    unfold se_S
    dsimp only
    by_cases e : k = f n
    · subst e
      rw [va_up_self]
      exact ⟨fun _ => Or.inr ⟨n, by omega, rfl⟩, fun _ => rfl⟩
    · rw [va_up_ne _ _ e, se_iff (n := n)]
      constructor
      · rintro (h | ⟨i, h1, h2⟩)
        · exact Or.inl h
        · exact Or.inr ⟨i, by omega, h2⟩
      · rintro (h | ⟨i, h1, h2⟩)
        · exact Or.inl h
        · by_cases q : i = n
          · subst q; exact absurd h2.symm e
          · exact Or.inr ⟨i, by omega, h2⟩
theorem se_ct {f : Nat → Nat} : ∀ {n : Nat}, (∀ i k, i < n → k < n → f i = f k → i = k) → (se_S sb f n).1 = ct (fun i => !sb (f i)) n
  | 0, _ => rfl
  | n + 1, h => by
    have ih := se_ct (f := f) (n := n) (fun i k h1 h2 => h i k (by omega) (by omega))
    have e : (se_S sb f n).2 (f n) = sb (f n) := by
      rw [Bool.eq_iff_iff, se_iff]
      constructor
      · rintro (q | ⟨i, q1, q2⟩)
        · exact q
        · have := h i n (by omega) (by omega) q2; omega
      · exact Or.inl
    unfold se_S ct
    dsimp only
    rw [e, ih]
    cases sb (f n) <;> rfl
theorem ct_cg {f g : Nat → Bool} {n : Nat} (h : ∀ i, i < n → f i = g i) : ct f n = ct g n := ct_cong h
theorem se_cg {f g : Nat → Nat} : ∀ {n : Nat}, (∀ i, i < n → f i = g i) → se_S sb f n = se_S sb g n
  | 0, _ => rfl
  | n + 1, h => by
    unfold se_S
    rw [se_cg (n := n) (fun i q => h i (by omega)), h n (by omega)]
/-- settling: the number, and the two sets -/
theorem fl_res (hcn : cn ≤ 40) (hb : ∀ k, k < cn → ∀ b, bf k = some b → b < k) (hC : iC j cn n ch cc bf rc tg fr an) (hS : ∀ k, tb sS k = (decide (k < cn) && sb k)) : pc64 (cs_set ch n &&& (sS ^^^ (-1))) = (se_S sb (fun i => cc (40 * j + i)) n).1 := by
  rw [pc_cs _ (fun i hi => by have := (hC i hi).2.1; omega) (ch_inj hb hC), se_cg (g := ch) (fun i hi => (hC i hi).1.symm), se_ct (ch_inj hb hC)]
  refine ct_cong (fun i hi => ?_)
  have h1 := (hC i hi).2.1
  rw [tb_nt _ (by omega), hS]
  simp [h1]
theorem fl_set (hcn : cn ≤ 40) (hC : iC j cn n ch cc bf rc tg fr an) (hS : ∀ k, tb sS k = (decide (k < cn) && sb k)) (k : Nat) : tb (sS ||| (cs_set ch n &&& (sS ^^^ (-1)))) k = (decide (k < cn) && (se_S sb (fun i => cc (40 * j + i)) n).2 k) := by
  rw [Bool.eq_iff_iff, tb_or, tb_and, Bool.or_eq_true, Bool.and_eq_true, Bool.and_eq_true, decide_eq_true_iff, tb_cs (fun i hi => by have := (hC i hi).2.1; omega), se_cg (g := ch) (fun i hi => (hC i hi).1.symm), se_iff, hS, Bool.and_eq_true, decide_eq_true_iff]
  constructor
  · rintro (⟨h1, h2⟩ | ⟨⟨i, h1, h2⟩, _⟩)
    · exact ⟨h1, Or.inl h2⟩
    · exact ⟨by rw [← h2]; exact (hC i h1).2.1, Or.inr ⟨i, h1, h2⟩⟩
  · rintro ⟨h1, h2 | ⟨i, h2, h3⟩⟩
    · exact Or.inl ⟨h1, h2⟩
    · cases hs : sb k with
      | true => exact Or.inl ⟨h1, rfl⟩
      | false => exact Or.inr ⟨⟨i, h2, h3⟩, by rw [tb_nt _ (by omega), hS, hs]; simp⟩
/-- settling keeps the fronts of all chains -/
theorem fl_K {i n2 : Nat} {ch2 : Nat → Nat} (hC2 : iC i cn n2 ch2 cc bf rc tg fr an) (hC : iC j cn n ch cc bf rc tg fr an) (hij : i ≠ j) (hK : iK n2 ch2 sb lt sd lc kc) : iK n2 ch2 (se_S sb (fun i => cc (40 * j + i)) n).2 lt sd lc kc := by
  obtain ⟨⟨m, h1, h2, h3⟩, h4⟩ := hK
  refine ⟨⟨m, h1, fun k hk => ?_, h3⟩, h4⟩
  rw [← h2 k hk, Bool.eq_iff_iff, se_cg (g := ch) (fun i hi => (hC i hi).1.symm), se_iff]
  constructor
  · rintro (q | ⟨z, q1, q2⟩)
    · exact q
    · exfalso
      have a1 := (hC z q1).2.2.2.1
      have a2 := (hC2 k hk).2.2.2.1
      rw [q2, a2] at a1
      exact hij a1
  · exact Or.inl
theorem fl_K0 (hC : iC j cn n ch cc bf rc tg fr an) (hK : iK n ch sb lt sd lc kc) : iK n ch (se_S sb (fun i => cc (40 * j + i)) n).2 lt sd lc kc := by
  obtain ⟨⟨m, h1, h2, h3⟩, h4⟩ := hK
  refine ⟨⟨n, Nat.le_refl _, fun k hk => ?_, fun x hx => Nat.le_trans (h3 x hx) h1⟩, h4⟩
  have e : (se_S sb (fun i => cc (40 * j + i)) n).2 (ch k) = true := by
    rw [se_cg (g := ch) (fun i hi => (hC i hi).1.symm), se_iff]
    exact Or.inr ⟨k, hk, rfl⟩
  rw [e]
  simp [hk]
/-- settling, then a checkpoint -/
theorem ck_K (hC : iC j cn n ch cc bf rc tg fr an) (hK : iK n ch sb lt sd lc kc) : iK n ch (se_S sb (fun i => cc (40 * j + i)) n).2 (if lt = some n then lt else some n) (if lt = some n then sd else lt) n (if lc = n then kc else lc) := by
  obtain ⟨⟨m, h1, h2, h3⟩, h4, h5, h6⟩ := hK
  refine ⟨⟨n, Nat.le_refl _, fun k hk => ?_, fun x hx => ?_⟩, ?_, ?_, ?_⟩
  · have e : (se_S sb (fun i => cc (40 * j + i)) n).2 (ch k) = true := by
      rw [se_cg (g := ch) (fun i hi => (hC i hi).1.symm), se_iff]
      exact Or.inr ⟨k, hk, rfl⟩
    rw [e]
    simp [hk]
  · split at hx
    · exact Nat.le_trans (h3 x hx) h1
    · cases hx; exact Nat.le_refl _
  · split
    · rename_i h; rw [h]; rfl
    · rfl
  · cases hl : lt with
    | none =>
      have hs : sd = none := by
        cases hs : sd with
        | none => rfl
        | some y => obtain ⟨x, q, _⟩ := h6 y hs; rw [hl] at q; cases q
      rw [hl] at h4
      rw [hs] at h5
      have h4 : lc = 0 := h4
      have h5 : kc = 0 := h5
      subst h4; subst h5
      simp
    | some x =>
      rw [hl] at h4
      have h4 : lc = x := h4
      subst h4
      by_cases e : lc = n
      · subst e; simp [h5]
      · have e2 : ¬ (some lc = some n) := fun q => e (Option.some.inj q)
        simp [e, e2]
  · intro y hy
    split at hy
    · rename_i h
      obtain ⟨x, q1, q2⟩ := h6 y hy
      rw [if_pos h]
      exact ⟨x, q1, q2⟩
    · rename_i h
      rw [if_neg h]
      exact ⟨n, rfl, Nat.le_trans (h3 y hy) h1⟩
end INV
