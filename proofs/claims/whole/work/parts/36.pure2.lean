-- ===== resend =====
theorem on_iff {f : Nat → Nat} {io : Option Nat} : ∀ {n : Nat}, on_F f io n = true ↔ ∃ i, i < n ∧ io = some (f i)
  | 0 => by
    unfold on_F
    constructor
    · intro h; cases h
    · intro ⟨i, h, _⟩; omega
  | n + 1 => by
    unfold on_F
    rw [Bool.or_eq_true, on_iff (n := n), decide_eq_true_iff]
    constructor
    · rintro (⟨i, h1, h2⟩ | h1)
      · exact ⟨i, by omega, h2⟩
      · exact ⟨n, by omega, h1⟩
    · intro ⟨i, h1, h2⟩
      by_cases q : i = n
      · subst q; exact Or.inr h2
      · exact Or.inl ⟨i, by omega, h2⟩
theorem tb_bto_none (k : Nat) : tb (bto none) k = decide (k = 63) := by
  have h : bto none = bt 63 := by decide +kernel
  rw [h, tb_bt (by decide)]
theorem rv_cond {n : Nat} {ch f : Nat → Nat} (hf : ∀ i, i < n → ch i = f i) (h40 : ∀ i, i < n → ch i < 40) (o : Option Nat) (ho : ∀ i, o = some i → i < 40) : (¬ cs_set ch n &&& bto o = 0) ↔ on_F f o n = true := by
  rw [on_iff]
  have h1 : (¬ cs_set ch n &&& bto o = 0) ↔ ∃ k, tb (cs_set ch n) k = true ∧ tb (bto o) k = true := by
    rw [← tb_n0, Bool.not_eq_true', decide_eq_false_iff_not]
  rw [h1]
  cases o with
  | none =>
    constructor
    · intro ⟨k, h2, h3⟩
      rw [tb_bto_none, decide_eq_true_iff] at h3
      obtain ⟨i, h4, h5⟩ := (tb_cs (fun i hi => by have := h40 i hi; omega) k).mp h2
      have := h40 i h4
      omega
    · intro ⟨i, _, h⟩; cases h
  | some q =>
    have hq := ho q rfl
    have e : bto (some q) = bt q := rfl
    constructor
    · intro ⟨k, h2, h3⟩
      rw [e, tb_bt (by omega), decide_eq_true_iff] at h3
      obtain ⟨i, h4, h5⟩ := (tb_cs (fun i hi => by have := h40 i hi; omega) k).mp h2
      exact ⟨i, h4, by rw [← hf i h4, h5, h3]⟩
    · intro ⟨i, h2, h3⟩
      refine ⟨q, (tb_cs (fun i hi => by have := h40 i hi; omega) q).mpr ⟨i, h2, ?_⟩, by rw [e, tb_bt (by omega)]; simp⟩
      rw [hf i h2]
      exact (Option.some.inj h3).symm
theorem rv_eq {n : Nat} {ch f : Nat → Nat} (hf : ∀ i, i < n → ch i = f i) (h40 : ∀ i, i < n → ch i < 40) (su : Nat → Nat) (sr : Nat → Option Nat) (hs : ∀ k i, sr k = some i → i < 40) : ∀ m, rv_F su sr (cs_set ch n) m = rs_F su sr f n m ∧ rv_C su sr (cs_set ch n) m = rs_C su sr f n m
  | 0 => ⟨rfl, rfl⟩
  | m + 1 => by
    obtain ⟨e1, e2⟩ := rv_eq hf h40 su sr hs m
    have h := rv_cond hf h40 (sr m) (hs m)
    unfold rv_F rs_F rv_C rs_C
    rw [e1, e2]
    by_cases hc : su m = 2 ∧ ¬ cs_set ch n &&& bto (sr m) = 0
    · rw [if_pos hc, if_pos hc, if_pos ⟨hc.1, h.mp hc.2⟩, if_pos ⟨hc.1, h.mp hc.2⟩]
      exact ⟨rfl, rfl⟩
    · have hc2 : ¬ (su m = 2 ∧ on_F f (sr m) n = true) := fun q => hc ⟨q.1, h.mpr q.2⟩
      rw [if_neg hc, if_neg hc, if_neg hc2, if_neg hc2]
      exact ⟨rfl, rfl⟩
theorem rs_4 {su : Nat → Nat} {sr : Nat → Option Nat} {f : Nat → Nat} {n : Nat} (h : ∀ k, su k < 4) : ∀ m k, rs_F su sr f n m k < 4
  | 0, k => h k
  | m + 1, k => by
    unfold rs_F
    split
    · by_cases e : k = m
      · subst e; rw [va_up_self]; decide
      · rw [va_up_ne _ _ e]; exact rs_4 h m k
    · exact rs_4 h m k
-- ===== crash =====
def lz_F {α : Type} (f0 : Nat → α) (g : Nat → Nat) (kp : Nat) (v : α) : Nat → Nat → α
  | 0 => f0
  | i + 1 => va_up (lz_F f0 g kp v i) (g (kp + i)) v
theorem lu_lz (su f : Nat → Nat) (kp : Nat) : ∀ d, lu_F su f kp d = lz_F su f kp 2 d
  | 0 => rfl
  | d + 1 => by
    unfold lu_F lz_F
    rw [lu_lz su f kp d]
theorem lz_in {α : Type} {f0 : Nat → α} {g : Nat → Nat} {kp : Nat} {v : α} : ∀ {d t : Nat}, (∃ i, i < d ∧ g (kp + i) = t) → lz_F f0 g kp v d t = v
  | 0, t, h => by obtain ⟨i, h, _⟩ := h; omega
  | d + 1, t, h => by
    unfold lz_F
    by_cases e : t = g (kp + d)
    · subst e; exact va_up_self _ _ _
    · rw [va_up_ne _ _ e]
      refine lz_in ?_
      obtain ⟨i, h1, h2⟩ := h
      by_cases q : i = d
      · subst q; exact absurd h2.symm e
      · exact ⟨i, by omega, h2⟩
theorem lz_out {α : Type} {f0 : Nat → α} {g : Nat → Nat} {kp : Nat} {v : α} : ∀ {d t : Nat}, (∀ i, i < d → g (kp + i) ≠ t) → lz_F f0 g kp v d t = f0 t
  | 0, t, _ => rfl
  | d + 1, t, h => by
    unfold lz_F
    rw [va_up_ne _ _ (fun e => h d (by omega) e.symm)]
    exact lz_out (fun i hi => h i (by omega))
theorem lz_4 {su g : Nat → Nat} {kp v : Nat} (hv : v < 4) (h : ∀ k, su k < 4) : ∀ d k, lz_F su g kp v d k < 4
  | 0, k => h k
  | d + 1, k => by
    unfold lz_F
    by_cases e : k = g (kp + d)
    · subst e; rw [va_up_self]; exact hv
    · rw [va_up_ne _ _ e]; exact lz_4 hv h d k
theorem lz_cg {α : Type} {f0 : Nat → α} {g g' : Nat → Nat} {kp : Nat} {v : α} : ∀ {d : Nat}, (∀ i, i < d → g (kp + i) = g' (kp + i)) → lz_F f0 g kp v d = lz_F f0 g' kp v d
  | 0, _ => rfl
  | d + 1, h => by
    unfold lz_F
    rw [lz_cg (fun i hi => h i (by omega)), h d (by omega)]
section CRA
variable {j cn n m : Nat} {rc cc ch fr su : Nat → Nat} {sb lo : Nat → Bool} {sS : Int64}
theorem cr_1 (hc : ∀ k, k < n → ch k = cc (40 * j + k)) (hm : m ≤ n) (hs : ∀ k, k < n → sb (ch k) = decide (k < m)) : ∀ k, k ≤ m → cr_S sb rc j (cc, lo, fr, su) k = (k, cc, lo, fr, su)
  | 0, _ => rfl
  | k + 1, hk => by
    unfold cr_S
    rw [cr_1 hc hm hs k (by omega)]
    dsimp only
    have hk1 : sb (cc (40 * j + k)) = true := by
      rw [← hc k (by omega), hs k (by omega)]
      simp only [decide_eq_true_iff]
      omega
    rw [if_pos hk1, va_up_eta]
theorem cr_2 (hc : ∀ k, k < n → ch k = cc (40 * j + k)) (hm : m ≤ n) (hs : ∀ k, k < n → sb (ch k) = decide (k < m)) : ∀ d, m + d ≤ n → cr_S sb rc j (cc, lo, fr, su) (m + d) = (m, cc, lz_F lo ch m true d, lz_F fr ch m j d, lz_F su (fun i => rc (ch i)) m 2 d)
  | 0, _ => cr_1 hc hm hs m (Nat.le_refl _)
  | d + 1, hd => by
    rw [show m + (d + 1) = (m + d) + 1 by omega]
    unfold cr_S
    rw [cr_2 hc hm hs d (by omega)]
    dsimp only
    have hk1 : ¬ sb (cc (40 * j + (m + d))) = true := by
      rw [← hc (m + d) (by omega), hs (m + d) (by omega)]
      simp only [decide_eq_true_iff]
      omega
    rw [if_neg hk1, ← hc (m + d) (by omega)]
    rfl
theorem ct_tail : ∀ {n m : Nat}, m ≤ n → ct (fun i => !decide (i < m)) n = n - m
  | 0, m, h => by
    have : m = 0 := by omega
    subst this
    rfl
  | n + 1, m, h => by
    unfold ct
    by_cases e : m = n + 1
    · subst e
      have : ∀ k, k ≤ n + 1 → ct (fun i => !decide (i < n + 1)) k = 0 := by
        intro k
        induction k with
        | zero => intro _; rfl
        | succ k ih =>
          intro hk
          unfold ct
          rw [ih (by omega)]
          simp
          omega
      rw [this n (by omega)]
      simp
    · rw [ct_tail (n := n) (m := m) (by omega)]
      simp only [show ¬ n < m by omega, decide_false, Bool.not_false, if_true]
      omega
theorem gone_iff (hcn : cn ≤ 40) (hlt : ∀ k, k < n → ch k < cn) (hm : m ≤ n) (hs : ∀ k, k < n → sb (ch k) = decide (k < m)) (hS : ∀ k, tb sS k = (decide (k < cn) && sb k)) (t : Nat) : tb (cs_set ch n &&& (sS ^^^ (-1))) t = true ↔ ∃ i, i < n - m ∧ ch (m + i) = t := by
  rw [tb_and, Bool.and_eq_true, tb_cs (fun i hi => by have := hlt i hi; omega)]
  constructor
  · rintro ⟨⟨i, h1, h2⟩, h3⟩
    have h4 := hlt i h1
    rw [tb_nt _ (by omega), hS, ← h2, hs i h1] at h3
    simp [h4] at h3
    exact ⟨i - m, by omega, by rw [show m + (i - m) = i by omega]; exact h2⟩
  · intro ⟨i, h1, h2⟩
    have h4 := hlt (m + i) (by omega)
    refine ⟨⟨m + i, by omega, h2⟩, ?_⟩
    rw [tb_nt _ (by omega), hS, ← h2, hs (m + i) (by omega)]
    simp
theorem gone_pc (hcn : cn ≤ 40) (hlt : ∀ k, k < n → ch k < cn) (hinj : ∀ i k, i < n → k < n → ch i = ch k → i = k) (hm : m ≤ n) (hs : ∀ k, k < n → sb (ch k) = decide (k < m)) (hS : ∀ k, tb sS k = (decide (k < cn) && sb k)) : pc64 (cs_set ch n &&& (sS ^^^ (-1))) = n - m := by
  rw [pc_cs _ (fun i hi => by have := hlt i hi; omega) hinj, ← ct_tail hm]
  refine ct_cong (fun i hi => ?_)
  have h4 := hlt i hi
  rw [tb_nt _ (by omega), hS, hs i hi]
  simp [h4]
end CRA
-- ===== learning =====
theorem fo_cg {P Q : Nat → Bool} : ∀ {f k : Nat}, (∀ i, k ≤ i → i < k + f → P i = Q i) → fo_N P f k = fo_N Q f k
  | 0, _, _ => rfl
  | f + 1, k, h => by
    unfold fo_N
    rw [h k (Nat.le_refl _) (by omega), fo_cg (fun i h1 h2 => h i (by omega) (by omega))]
theorem gb_cg {su f f' : Nat → Nat} {o o' : Nat → Bool} {kp : Nat} : ∀ {d : Nat}, (∀ i, i < d → f (kp + i) = f' (kp + i)) → (∀ i, i < d → o (f' (kp + i)) = o' (f' (kp + i))) → gb_F su f o kp d = gb_F su f' o' kp d
  | 0, _, _ => rfl
  | d + 1, h1, h2 => by
    unfold gb_F
    rw [gb_cg (fun i hi => h1 i (by omega)) (fun i hi => h2 i (by omega)), h1 d (by omega), h2 d (by omega)]
theorem gb_4 {su f : Nat → Nat} {o : Nat → Bool} {kp : Nat} (h : ∀ k, su k < 4) : ∀ d k, gb_F su f o kp d k < 4
  | 0, k => h k
  | d + 1, k => by
    unfold gb_F
    by_cases e : k = f (kp + d)
    · subst e; rw [va_up_self]; split <;> decide
    · rw [va_up_ne _ _ e]; exact gb_4 h d k
theorem inO_s (o : Option Nat) (w : Nat) : inO o w (w + 1) = decide (o = some w) := by
  cases o with
  | none => simp [inO]
  | some a =>
    rw [Bool.eq_iff_iff]
    simp [inO]
    omega
theorem inO_or (o : Option Nat) (w : Nat) : (inO o 0 w || decide (o = some w)) = inO o 0 (w + 1) := by
  cases o with
  | none => simp [inO]
  | some a =>
    rw [Bool.eq_iff_iff]
    simp [inO]
    omega
/-- the checkpoints behind a cut to n -/
theorem dr_K {n n0 : Nat} {ch : Nat → Nat} {sb : Nat → Bool} {lt sd : Nat → Option Nat} {j lc kc : Nat} (hn0 : n0 ≤ 40) (hn : n ≤ n0) (hK : iK n0 ch sb (lt j) (sd j) lc kc) : iK n ch sb (dr_L lt sd j n j) (dr_S lt sd j n j) (dl_1 n lc kc) (dl_2 n lc kc) := by
  obtain ⟨⟨m, h1, h2, h3⟩, h4, h5, h6⟩ := hK
  have cmp : ∀ o : Option Nat, (∀ x, o = some x → x ≤ 40) → (oI o ≤ nI n ↔ ∀ x, o = some x → x ≤ n) := by
    intro o ho
    cases o with
    | none =>
      constructor
      · intro _ x hx; cases hx
      · intro _
        refine Int32.le_iff_toInt_le.mpr ?_
        rw [nI_toInt (by omega)]
        show (-1 : Int32).toInt ≤ _
        have : (-1 : Int32).toInt = -1 := by decide +kernel
        omega
    | some x =>
      have hx := ho x rfl
      have := nI_leI (a := x) (b := n) (by omega) (by omega)
      constructor
      · intro q y hy; cases hy; exact this.mp q
      · intro q; exact this.mpr (q x rfl)
  have hl40 : ∀ x, lt j = some x → x ≤ 40 := fun x hx => by have := h3 x hx; omega
  have hs40 : ∀ x, sd j = some x → x ≤ 40 := fun y hy => by
    obtain ⟨x, q1, q2⟩ := h6 y hy
    have := hl40 x q1
    omega
  have eS : dr_S1 sd j n j = if (∀ x, sd j = some x → x ≤ n) then sd j else none := by
    unfold dr_S1
    by_cases q : oI (sd j) ≤ nI n
    · rw [if_pos q, if_pos ((cmp _ hs40).mp q)]
    · rw [if_neg q, if_neg (fun z => q ((cmp _ hs40).mpr z)), va_up_self]
  have eL : dr_L lt sd j n j = if (∀ x, lt j = some x → x ≤ n) then lt j else dr_S1 sd j n j := by
    unfold dr_L
    by_cases q : oI (lt j) ≤ nI n
    · rw [if_pos q, if_pos ((cmp _ hl40).mp q)]
    · rw [if_neg q, if_neg (fun z => q ((cmp _ hl40).mpr z)), va_up_self]
  have eD : dr_S lt sd j n j = if (∀ x, lt j = some x → x ≤ n) then dr_S1 sd j n j else none := by
    unfold dr_S
    by_cases q : oI (lt j) ≤ nI n
    · rw [if_pos q, if_pos ((cmp _ hl40).mp q)]
    · rw [if_neg q, if_neg (fun z => q ((cmp _ hl40).mpr z)), va_up_self]
  rw [eL, eD, eS]
  clear eS eL eD
  generalize hlt : lt j = L at *
  generalize hsd : sd j = S at *
  refine ⟨⟨min m n, by omega, fun k hk => ?_, ?_⟩, ?_⟩
  · rw [h2 k (by omega), Bool.eq_iff_iff]
    simp only [decide_eq_true_iff]
    omega
  · intro x hx
    split at hx
    · rename_i q
      have a1 := h3 x hx
      have a2 := q x hx
      omega
    · rename_i q
      split at hx
      · rename_i q2
        obtain ⟨y, b1, b2⟩ := h6 x hx
        have a1 := h3 y b1
        have a2 := q2 x hx
        omega
      · cases hx
  · cases L with
    | none =>
      have hS : S = none := by
        cases S with
        | none => rfl
        | some y => obtain ⟨x, q, _⟩ := h6 y rfl; cases q
      subst hS
      have h4 : lc = 0 := h4
      have h5 : kc = 0 := h5
      subst h4; subst h5
      simp [dl_1, dl_2]
    | some x =>
      have h4 : lc = x := h4
      subst h4
      cases S with
      | none =>
        have h5 : kc = 0 := h5
        subst h5
        by_cases q : lc ≤ n
        · simp [dl_1, dl_2, q, Nat.not_lt.mpr q]
        · simp [dl_1, dl_2, q, Nat.lt_of_not_le q]
      | some y =>
        have h5 : kc = y := h5
        subst h5
        obtain ⟨x2, q1, q2⟩ := h6 kc rfl
        cases q1
        by_cases q : lc ≤ n
        · have qk : kc ≤ n := by omega
          simp [dl_1, dl_2, q, qk, Nat.not_lt.mpr q, Nat.not_lt.mpr qk, q2]
        · by_cases qk : kc ≤ n
          · simp [dl_1, dl_2, q, qk, Nat.lt_of_not_le q, Nat.not_lt.mpr qk]
          · simp [dl_1, dl_2, q, qk, Nat.lt_of_not_le qk]
theorem dr_ne {lt sd : Nat → Option Nat} {i j n : Nat} (h : i ≠ j) : dr_L lt sd j n i = lt i ∧ dr_S lt sd j n i = sd i := by
  unfold dr_L dr_S dr_S1
  constructor
  · split
    · rfl
    · exact va_up_ne _ _ h
  · split
    · split
      · rfl
      · exact va_up_ne _ _ h
    · rw [va_up_ne _ _ h]
      split
      · rfl
      · exact va_up_ne _ _ h
