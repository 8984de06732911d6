-- ===== bits of longs =====
theorem tb_and (x y : Int64) (k : Nat) : tb (x &&& y) k = (tb x k && tb y k) := by
  unfold tb
  rw [Int64.toBitVec_and, BitVec.getLsbD_and]
theorem tb_or (x y : Int64) (k : Nat) : tb (x ||| y) k = (tb x k || tb y k) := by
  unfold tb
  rw [Int64.toBitVec_or, BitVec.getLsbD_or]
theorem tb_ge {x : Int64} {k : Nat} (h : 64 ≤ k) : tb x k = false := BitVec.getLsbD_of_ge x.toBitVec k h
theorem tb_nt (x : Int64) {k : Nat} (h : k < 64) : tb (x ^^^ (-1)) k = !tb x k := by
  unfold tb
  rw [Int64.toBitVec_xor, BitVec.getLsbD_xor, show (-1 : Int64).toBitVec = BitVec.allOnes 64 by decide +kernel, BitVec.getLsbD_allOnes]
  simp [h]
theorem bt_bv : ∀ i, i < 64 → (bt i).toBitVec = BitVec.twoPow 64 i := by decide +kernel
theorem tb_bt {i : Nat} (h : i < 64) (k : Nat) : tb (bt i) k = decide (k = i) := by
  unfold tb
  rw [bt_bv i h, BitVec.getLsbD_twoPow]
  by_cases e : k = i
  · subst e; simp [h]
  · have e' : ¬ i = k := fun q => e q.symm
    simp [e, e']
theorem tb_0 (k : Nat) : tb 0 k = false := by
  unfold tb
  rw [show (0 : Int64).toBitVec = 0#64 by decide +kernel]
  simp
theorem tb_ext {x y : Int64} (h : ∀ k, tb x k = tb y k) : x = y := Int64.toBitVec.inj (BitVec.eq_of_getLsbD_eq (fun i _ => h i))
theorem tb_and0 (x y : Int64) : x &&& y = 0 ↔ ∀ k, tb x k = true → tb y k = false := by
  constructor
  · intro h k hx
    have h2 : tb (x &&& y) k = false := by rw [h]; exact tb_0 k
    rw [tb_and, hx] at h2
    simpa using h2
  · intro h
    refine tb_ext (fun k => ?_)
    rw [tb_and, tb_0]
    cases hx : tb x k with
    | false => rfl
    | true => rw [h k hx]; rfl
/-- not zero: a bit in both -/
theorem tb_n0 (x y : Int64) : (!decide (x &&& y = 0)) = true ↔ ∃ k, tb x k = true ∧ tb y k = true := by
  rw [Bool.not_eq_true', decide_eq_false_iff_not, tb_and0]
  constructor
  · intro h
    apply Classical.byContradiction
    intro h2
    exact h (fun k hx => by
      cases hy : tb y k with
      | false => rfl
      | true => exact absurd ⟨k, hx, hy⟩ h2)
  · intro ⟨k, hx, hy⟩ h
    rw [h k hx] at hy
    cases hy
-- ===== counting =====
theorem ct_le (f : Nat → Bool) : ∀ n, ct f n ≤ n
  | 0 => Nat.le_refl _
  | n + 1 => by
    have := ct_le f n
    unfold ct
    split <;> omega
theorem ct_lt {f : Nat → Bool} : ∀ {n c : Nat}, c < n → f c = false → ct f n < n
  | 0, _, h, _ => absurd h (Nat.not_lt_zero _)
  | n + 1, c, h, hf => by
    unfold ct
    by_cases e : c = n
    · subst e
      have := ct_le f c
      simp [hf]
      omega
    · have := ct_lt (n := n) (c := c) (by omega) hf
      split <;> omega
theorem ct_ins {f g : Nat → Bool} {c : Nat} (hg : ∀ k, g k = (f k || decide (k = c))) (hf : f c = false) : ∀ {n : Nat}, ct g n = ct f n + (if c < n then 1 else 0)
  | 0 => rfl
  | n + 1 => by
    unfold ct
    rw [ct_ins hg hf (n := n), hg n]
    by_cases e : n = c
    · subst e
      simp [hf]
    · have e2 : (c < n + 1) = (c < n) := by simp only [eq_iff_iff]; omega
      simp only [e, decide_false, Bool.or_false, e2]
      omega
/-- the bits of a chain -/
theorem tb_cs {ch : Nat → Nat} : ∀ {n : Nat}, (∀ i, i < n → ch i < 64) → ∀ k, tb (cs_set ch n) k = true ↔ ∃ i, i < n ∧ ch i = k
  | 0, _, k => by
    unfold cs_set
    rw [tb_0]
    constructor
    · intro h; cases h
    · intro ⟨i, h, _⟩; omega
  | n + 1, h, k => by
    unfold cs_set
    rw [tb_or, Bool.or_eq_true, tb_cs (fun i hi => h i (by omega)), tb_bt (h n (by omega)), decide_eq_true_iff]
    constructor
    · rintro (⟨i, h1, h2⟩ | h1)
      · exact ⟨i, by omega, h2⟩
      · exact ⟨n, by omega, h1.symm⟩
    · intro ⟨i, h1, h2⟩
      by_cases e : i = n
      · subst e; exact Or.inr h2.symm
      · exact Or.inl ⟨i, by omega, h2⟩
theorem pc_cs {ch : Nat → Nat} (y : Int64) : ∀ {n : Nat}, (∀ i, i < n → ch i < 64) → (∀ i j, i < n → j < n → ch i = ch j → i = j) → pc64 (cs_set ch n &&& y) = ct (fun i => tb y (ch i)) n
  | 0, _, _ => by
    show ct (tb (0 &&& y)) 64 = 0
    have h : ∀ n, ct (tb (0 &&& y)) n = 0 := by
      intro n
      induction n with
      | zero => rfl
      | succ n ih =>
        unfold ct
        rw [ih, tb_and, tb_0]
        rfl
    exact h 64
  | n + 1, h, hi => by
    have ih := pc_cs (ch := ch) y (n := n) (fun i q => h i (by omega)) (fun i j q1 q2 => hi i j (by omega) (by omega))
    unfold ct
    rw [← ih]
    cases hy : tb y (ch n) with
    | false =>
      have e : cs_set ch (n + 1) &&& y = cs_set ch n &&& y := by
        refine tb_ext (fun k => ?_)
        rw [show cs_set ch (n + 1) = cs_set ch n ||| bt (ch n) from rfl, tb_and, tb_and, tb_or, tb_bt (h n (by omega))]
        by_cases e : k = ch n
        · subst e; rw [hy]; simp
        · simp [e]
      rw [e]
      rfl
    | true =>
      have e : ∀ k, tb (cs_set ch (n + 1) &&& y) k = (tb (cs_set ch n &&& y) k || decide (k = ch n)) := by
        intro k
        rw [show cs_set ch (n + 1) = cs_set ch n ||| bt (ch n) from rfl, tb_and, tb_and, tb_or, tb_bt (h n (by omega))]
        by_cases e : k = ch n
        · subst e; rw [hy]; simp
        · simp [e]
      have hf : tb (cs_set ch n &&& y) (ch n) = false := by
        rw [tb_and]
        cases hc : tb (cs_set ch n) (ch n) with
        | false => rfl
        | true =>
          obtain ⟨i, q1, q2⟩ := (tb_cs (fun i q => h i (by omega)) _).mp hc
          have := hi i n (by omega) (by omega) q2
          omega
      show ct (tb (cs_set ch (n + 1) &&& y)) 64 = ct (tb (cs_set ch n &&& y)) 64 + 1
      rw [ct_ins e hf]
      have := h n (by omega)
      simp [this]
-- ===== what depends on what =====
def dpo (dp : Nat → Int64) : Option Nat → Int64
  | none => 0
  | some b => dp b
theorem dsv_eq (sr : Nat → Option Nat) (dp : Nat → Int64) (k : Nat) : dsv sr dp k = dpo dp (sr k) := by
  unfold dsv dpo
  cases sr k <;> rfl
def iD (cn : Nat) (dp : Nat → Int64) (bf : Nat → Option Nat) (rc : Nat → Nat) (sr : Nat → Option Nat) : Prop := ∀ k, k < cn → dp k = (dpo dp (bf k) ||| dpo dp (sr (rc k))) ||| bt k
section DEP
variable {cn : Nat} {dp : Nat → Int64} {bf : Nat → Option Nat} {rc : Nat → Nat} {sr an : Nat → Option Nat}
theorem dp_or (hcn : cn ≤ 40) (hd : iD cn dp bf rc sr) {k : Nat} (hk : k < cn) (t : Nat) : tb (dp k) t = true ↔ (∃ b, bf k = some b ∧ tb (dp b) t = true) ∨ (∃ q, sr (rc k) = some q ∧ tb (dp q) t = true) ∨ t = k := by
  rw [hd k hk, tb_or, tb_or, tb_bt (by omega), Bool.or_eq_true, Bool.or_eq_true, decide_eq_true_iff, or_assoc]
  have h : ∀ o : Option Nat, tb (dpo dp o) t = true ↔ ∃ b, o = some b ∧ tb (dp b) t = true := by
    intro o
    cases o with
    | none => simp [dpo, tb_0]
    | some b => simp [dpo]
  rw [h, h]
theorem dp_self (hcn : cn ≤ 40) (hd : iD cn dp bf rc sr) {k : Nat} (hk : k < cn) : tb (dp k) k = true := (dp_or hcn hd hk k).mpr (Or.inr (Or.inr rfl))
theorem dp_le (hcn : cn ≤ 40) (hb : ∀ k, k < cn → ∀ b, bf k = some b → b < k) (hq : ∀ k, k < cn → ∀ q, sr (rc k) = some q → q < k) (hd : iD cn dp bf rc sr) : ∀ (n k : Nat), k < n → k < cn → ∀ t, tb (dp k) t = true → t ≤ k
  | 0, _, h, _, _, _ => absurd h (Nat.not_lt_zero _)
  | n + 1, k, hn, hk, t, ht => by
    rcases (dp_or hcn hd hk t).mp ht with ⟨b, h1, h2⟩ | ⟨q, h1, h2⟩ | h1
    · have h3 := hb k hk b h1
      have := dp_le hcn hb hq hd n b (by omega) (by omega) t h2
      omega
    · have h3 := hq k hk q h1
      have := dp_le hcn hb hq hd n q (by omega) (by omega) t h2
      omega
    · omega
theorem mk_step (g : Nat → Bool) (ob oq : Option Nat) (t : Nat) : (match oq with
        | none => (match ob with | none => g | some b => va_up g b true)
        | some q => va_up (match ob with | none => g | some b => va_up g b true) q true) t = true ↔ g t = true ∨ ob = some t ∨ oq = some t := by
  cases ob with
  | none =>
    cases oq with
    | none => simp
    | some q =>
      by_cases e : t = q
      · subst e; simp [va_up]
      · have e' : ¬ q = t := fun z => e z.symm
        simp [va_up, e, e']
  | some b =>
    cases oq with
    | none =>
      by_cases e : t = b
      · subst e; simp [va_up]
      · have e' : ¬ b = t := fun z => e z.symm
        simp [va_up, e, e']
    | some q =>
      by_cases e : t = q
      · subst e; simp [va_up]
      · by_cases e2 : t = b
        · subst e2; simp [va_up, e]
        · have e' : ¬ q = t := fun z => e z.symm
          have e2' : ¬ b = t := fun z => e2 z.symm
          simp [va_up, e, e2, e', e2']
theorem tr_S_dp (hcn : cn ≤ 40) (hb : ∀ k, k < cn → ∀ b, bf k = some b → b < k) (hq : ∀ k, k < cn → ∀ q, sr (rc k) = some q → q < k) (hd : iD cn dp bf rc sr) (D : Int64) : ∀ (k : Nat) (g : Nat → Bool), k ≤ cn → (∀ t, t < 40 → (tb D t = true ↔ g t = true ∨ ∃ j, j < k ∧ g j = true ∧ tb (dp j) t = true)) → ∀ t, t < 40 → tr_S bf rc sr k g t = tb D t
  | 0, g, _, h, t, ht => by
    unfold tr_S
    rw [Bool.eq_iff_iff, h t ht]
    constructor
    · exact Or.inl
    · rintro (h1 | ⟨j, h1, _⟩)
      · exact h1
      · omega
  | k + 1, g, hk, h, t, ht => by
    unfold tr_S
    refine tr_S_dp hcn hb hq hd D k _ (by omega) (fun t ht => ?_) t ht
    rw [h t ht]
    have hkc : k < cn := by omega
    cases hg : g k with
    | false =>
      simp only [Bool.false_eq_true, if_false]
      constructor
      · rintro (h1 | ⟨j, h1, h2, h3⟩)
        · exact Or.inl h1
        · by_cases e : j = k
          · subst e; rw [hg] at h2; cases h2
          · exact Or.inr ⟨j, by omega, h2, h3⟩
      · rintro (h1 | ⟨j, h1, h2, h3⟩)
        · exact Or.inl h1
        · exact Or.inr ⟨j, by omega, h2, h3⟩
    | true =>
      simp only [if_true]
      refine Iff.trans ?_ (or_congr (mk_step g (bf k) (sr (rc k)) t).symm Iff.rfl)
      have hdk := dp_or hcn hd hkc
      constructor
      · rintro (h1 | ⟨j, h1, h2, h3⟩)
        · exact Or.inl (Or.inl h1)
        · by_cases e : j = k
          · subst e
            rcases (hdk t).mp h3 with ⟨b, q1, q2⟩ | ⟨q, q1, q2⟩ | q1
            · exact Or.inr ⟨b, hb _ hkc b q1, (mk_step g _ _ b).mpr (Or.inr (Or.inl q1)), q2⟩
            · exact Or.inr ⟨q, hq _ hkc q q1, (mk_step g _ _ q).mpr (Or.inr (Or.inr q1)), q2⟩
            · subst q1; exact Or.inl (Or.inl hg)
          · exact Or.inr ⟨j, by omega, (mk_step g _ _ j).mpr (Or.inl h2), h3⟩
      · rintro ((h1 | h1 | h1) | ⟨j, h1, h2, h3⟩)
        · exact Or.inl h1
        · exact Or.inr ⟨k, by omega, hg, (hdk t).mpr (Or.inl ⟨t, h1, dp_self hcn hd (by have := hb _ hkc t h1; omega)⟩)⟩
        · exact Or.inr ⟨k, by omega, hg, (hdk t).mpr (Or.inr (Or.inl ⟨t, h1, dp_self hcn hd (by have := hq _ hkc t h1; omega)⟩))⟩
        · rcases (mk_step g _ _ j).mp h2 with h4 | h4 | h4
          · exact Or.inr ⟨j, by omega, h4, h3⟩
          · exact Or.inr ⟨k, by omega, hg, (hdk t).mpr (Or.inl ⟨j, h4, h3⟩)⟩
          · exact Or.inr ⟨k, by omega, hg, (hdk t).mpr (Or.inr (Or.inl ⟨j, h4, h3⟩))⟩
/-- the reference's marks are the class's bits -/
theorem tr_dp (hcn : cn ≤ 40) (hb : ∀ k, k < cn → ∀ b, bf k = some b → b < k) (hq : ∀ k, k < cn → ∀ q, sr (rc k) = some q → q < k) (hd : iD cn dp bf rc sr) (mk : Nat → Bool) (io : Option Nat) (hio : ∀ i, io = some i → i < cn) (t : Nat) (ht : t < 40) : tr_M bf rc sr mk io t = tb (dpo dp io) t := by
  unfold tr_M
  cases io with
  | none =>
    show tr_0 mk none 40 t = tb 0 t
    rw [tb_0]
    simp [tr_0, ht]
  | some i =>
    have hi := hio i rfl
    show tr_S bf rc sr (i + 1) (tr_0 mk (some i) 40) t = tb (dp i) t
    refine tr_S_dp hcn hb hq hd (dp i) (i + 1) _ (by omega) (fun t ht => ?_) t ht
    have e : ∀ j, j < 40 → (tr_0 mk (some i) 40 j = true ↔ i = j) := by
      intro j hj
      simp [tr_0, hj]
    rw [e t ht]
    constructor
    · intro h
      exact Or.inr ⟨i, by omega, (e i (by omega)).mpr rfl, h⟩
    · rintro (h | ⟨j, h1, h2, h3⟩)
      · subst h; exact dp_self hcn hd hi
      · have := (e j (by omega)).mp h2
        subst this
        exact h3
def inO (o : Option Nat) (x1 x2 : Nat) : Bool := match o with
  | none => false
  | some a => decide (x1 ≤ a) && decide (a < x2)
theorem ht_iff {mk : Nat → Bool} {x1 x2 : Nat} (hx1 : x1 < 2 ^ 31) (hx2 : x2 < 2 ^ 31) : ∀ {n : Nat}, (∀ k, k < n → ∀ a, an k = some a → a < 2 ^ 31) → (ht_F mk an x1 x2 n = true ↔ ∃ k, k < n ∧ mk k = true ∧ inO (an k) x1 x2 = true)
  | 0, _ => by
    unfold ht_F
    constructor
    · intro h; cases h
    · intro ⟨k, h, _⟩; omega
  | n + 1, h => by
    unfold ht_F
    have e : (!decide (oI (an n) < nI x1) && !decide (nI x2 ≤ oI (an n))) = inO (an n) x1 x2 := by
      cases ha : an n with
      | none =>
        have h1 : oI none < nI x1 := by
          refine Int32.lt_iff_toInt_lt.mpr ?_
          rw [nI_toInt hx1]
          show (-1 : Int32).toInt < _
          have : (-1 : Int32).toInt = -1 := by decide +kernel
          omega
        simp [inO, h1]
      | some a =>
        have hab := h n (by omega) a ha
        have h1 : (oI (some a) < nI x1) ↔ a < x1 := nI_ltI hab hx1
        have h2 : (nI x2 ≤ oI (some a)) ↔ x2 ≤ a := nI_leI hx2 hab
        simp only [h1, h2, inO]
        rw [Bool.eq_iff_iff]
        simp
    rw [Bool.or_eq_true, ht_iff hx1 hx2 (fun k hk => h k (by omega)), Bool.and_assoc, e, Bool.and_eq_true]
    constructor
    · rintro (⟨k, h1, h2⟩ | h1)
      · exact ⟨k, by omega, h2⟩
      · exact ⟨n, by omega, h1⟩
    · intro ⟨k, h1, h2⟩
      by_cases q : k = n
      · subst q; exact Or.inr h2
      · exact Or.inl ⟨k, by omega, h2⟩
theorem dl_iff {mk lo : Nat → Bool} : ∀ {n : Nat}, dl_F mk lo n = true ↔ ∃ k, k < n ∧ mk k = true ∧ lo k = true
  | 0 => by
    unfold dl_F
    constructor
    · intro h; cases h
    · intro ⟨k, h, _⟩; omega
  | n + 1 => by
    unfold dl_F
    rw [Bool.or_eq_true, dl_iff (n := n), Bool.and_eq_true]
    constructor
    · rintro (⟨k, h1, h2⟩ | h1)
      · exact ⟨k, by omega, h2⟩
      · exact ⟨n, by omega, h1⟩
    · intro ⟨k, h1, h2⟩
      by_cases q : k = n
      · subst q; exact Or.inr h2
      · exact Or.inl ⟨k, by omega, h2⟩
theorem ds_iff {mk sb : Nat → Bool} : ∀ {n : Nat}, ds_F mk sb n = true ↔ ∀ k, k < n → mk k = true → sb k = true
  | 0 => by
    unfold ds_F
    constructor
    · intro _ k h; omega
    · intro _; rfl
  | n + 1 => by
    unfold ds_F
    rw [Bool.and_eq_true, ds_iff (n := n)]
    constructor
    · intro ⟨h1, h2⟩ k hk hm
      by_cases q : k = n
      · subst q; rw [hm] at h2; simpa using h2
      · exact h1 k (by omega) hm
    · intro h
      refine ⟨fun k hk hm => h k (by omega) hm, ?_⟩
      cases hm : mk n with
      | false => rfl
      | true => rw [h n (by omega) hm]; rfl
/-- the questions of both sides -/
theorem hi_dp (hcn : cn ≤ 40) (hb : ∀ k, k < cn → ∀ b, bf k = some b → b < k) (hq : ∀ k, k < cn → ∀ q, sr (rc k) = some q → q < k) (hd : iD cn dp bf rc sr) (ha : ∀ k, k < cn → ∀ a, an k = some a → a < 2 ^ 31) {x1 x2 : Nat} (hx1 : x1 < 2 ^ 31) (hx2 : x2 < 2 ^ 31) (io : Option Nat) (hio : ∀ i, io = some i → i < cn) (st : Int64) (hst : ∀ k, tb st k = (decide (k < cn) && inO (an k) x1 x2)) : (!decide (dpo dp io &&& st = 0)) = hi_B bf rc sr an io x1 x2 cn := by
  unfold hi_B
  rw [Bool.eq_iff_iff, tb_n0, ht_iff hx1 hx2 ha]
  constructor
  · intro ⟨k, h1, h2⟩
    rw [hst, Bool.and_eq_true, decide_eq_true_iff] at h2
    exact ⟨k, h2.1, by rw [tr_dp hcn hb hq hd _ io hio k (by omega)]; exact h1, h2.2⟩
  · intro ⟨k, h1, h2, h3⟩
    rw [tr_dp hcn hb hq hd _ io hio k (by omega)] at h2
    exact ⟨k, h2, by rw [hst, h3]; simp [h1]⟩
theorem dlo_dp (hcn : cn ≤ 40) (hb : ∀ k, k < cn → ∀ b, bf k = some b → b < k) (hq : ∀ k, k < cn → ∀ q, sr (rc k) = some q → q < k) (hd : iD cn dp bf rc sr) (io : Option Nat) (hio : ∀ i, io = some i → i < cn) (st : Int64) (lo : Nat → Bool) (hst : ∀ k, tb st k = (decide (k < cn) && lo k)) : (!decide (dpo dp io &&& st = 0)) = dlo_B bf rc sr lo io cn := by
  unfold dlo_B
  rw [Bool.eq_iff_iff, tb_n0, dl_iff]
  constructor
  · intro ⟨k, h1, h2⟩
    rw [hst, Bool.and_eq_true, decide_eq_true_iff] at h2
    exact ⟨k, h2.1, by rw [tr_dp hcn hb hq hd _ io hio k (by omega)]; exact h1, h2.2⟩
  · intro ⟨k, h1, h2, h3⟩
    rw [tr_dp hcn hb hq hd _ io hio k (by omega)] at h2
    exact ⟨k, h2, by rw [hst, h3]; simp [h1]⟩
theorem dst_dp (hcn : cn ≤ 40) (hb : ∀ k, k < cn → ∀ b, bf k = some b → b < k) (hq : ∀ k, k < cn → ∀ q, sr (rc k) = some q → q < k) (hd : iD cn dp bf rc sr) (i : Nat) (hi : i < cn) (st : Int64) (sb : Nat → Bool) (hst : ∀ k, tb st k = (decide (k < cn) && sb k)) : decide (dp i &&& (st ^^^ (-1)) = 0) = dst_B bf rc sr sb (some i) cn := by
  unfold dst_B
  rw [Bool.eq_iff_iff, decide_eq_true_iff, tb_and0, ds_iff]
  have hio : ∀ j, some i = some j → j < cn := fun j e => by cases e; exact hi
  constructor
  · intro h k hk hm
    rw [tr_dp hcn hb hq hd _ (some i) hio k (by omega)] at hm
    have h2 := h k hm
    rw [tb_nt _ (by omega), hst] at h2
    simpa [hk] using h2
  · intro h k hm
    have hki := dp_le hcn hb hq hd (i + 1) i (by omega) hi k hm
    have h2 := h k (by omega) (by rw [tr_dp hcn hb hq hd _ (some i) hio k (by omega)]; exact hm)
    rw [tb_nt _ (by omega), hst, h2]
    simp
    omega
/-- the bits of an announcement -/
theorem tb_ab {w : Nat} : ∀ {n : Nat}, n ≤ 40 → ∀ k, tb (ab_S an w n) k = (decide (k < n) && decide (an k = some w))
  | 0, _, k => by
    unfold ab_S
    rw [tb_0]
    simp
  | n + 1, hn, k => by
    unfold ab_S
    have ih := tb_ab (w := w) (n := n) (by omega) k
    by_cases e : k = n
    · subst e
      split
      · rename_i h1
        rw [tb_or, ih, tb_bt (by omega)]
        simp [h1]
      · rename_i h1
        rw [ih]
        simp [h1]
    · have e2 : decide (k < n + 1) = decide (k < n) := by
        rw [Bool.eq_iff_iff]
        simp only [decide_eq_true_iff]
        omega
      rw [e2]
      split
      · rw [tb_or, ih, tb_bt (by omega)]
        simp [e]
      · exact ih
end DEP
