section LRN
variable {j cn n le : Nat} {dp : Nat → Int64} {bf sr an : Nat → Option Nat} {rc cc ch su fr : Nat → Nat} {sb : Nat → Bool} {ll li : Int64}
/-- one announcement: both sides cut at the same place and give the same messages back -/
theorem ln_1 (hcn : cn ≤ 40) (hb : ∀ k, k < cn → ∀ b, bf k = some b → b < k) (hq : ∀ k, k < cn → ∀ q, sr (rc k) = some q → q < k) (hd : iD cn dp bf rc sr) (ha : ∀ k, k < cn → ∀ a, an k = some a → a < 2 ^ 31) (hle : le + 1 < 2 ^ 31) (hc : ∀ k, k < n → ch k = cc (40 * j + k) ∧ ch k < cn) (hl : ∀ k, tb ll k = (decide (k < cn) && inO (an k) 0 le)) :
    fo_N (hb_B dp ch (ab_S an le cn)) n 0 = fo_N (fun i => hi_B bf rc sr an (some (cc (40 * j + i))) le (le + 1) cn) n 0 ∧
    (∀ k, tb (ll ||| ab_S an le cn) k = (decide (k < cn) && inO (an k) 0 (le + 1))) ∧
    (∀ kp, gb_F su (fun i => rc (ch i)) (ko_B sr dp (ll ||| ab_S an le cn)) kp (n - kp) = gb_F su (fun i => rc (cc (40 * j + i))) (fun z => hi_B bf rc sr an (sr z) 0 (le + 1) cn) kp (n - kp)) := by
  have hl2 : ∀ k, tb (ll ||| ab_S an le cn) k = (decide (k < cn) && inO (an k) 0 (le + 1)) := by
    intro k
    rw [tb_or, hl, tb_ab hcn, ← Bool.and_or_distrib_left, inO_or]
  refine ⟨fo_cg (fun i h1 h2 => ?_), hl2, fun kp => gb_cg (fun i hi => ?_) (fun i hi => ?_)⟩
  · have hci := hc i (by omega)
    have h3 : hb_B dp ch (ab_S an le cn) i = !decide (dpo dp (some (ch i)) &&& ab_S an le cn = 0) := rfl
    rw [h3, hi_dp hcn hb hq hd ha (x1 := le) (x2 := le + 1) (by omega) hle (some (ch i)) (fun z e => by cases e; exact hci.2) _ (fun k => by rw [tb_ab hcn, inO_s]), ← hci.1]
  · have hci := hc (kp + i) (by omega)
    rw [hci.1]
  · have hci := hc (kp + i) (by omega)
    rw [← hci.1]
    have h3 : ko_B sr dp (ll ||| ab_S an le cn) (rc (ch (kp + i))) = !decide (dpo dp (sr (rc (ch (kp + i)))) &&& (ll ||| ab_S an le cn) = 0) := by
      unfold ko_B
      rw [dsv_eq]
    rw [h3]
    exact hi_dp hcn hb hq hd ha (x1 := 0) (x2 := le + 1) (by omega) hle _ (fun z e => by have := hq _ hci.2 z e; omega) _ hl2
theorem ln_it (hcn : cn ≤ 40) (hb : ∀ k, k < cn → ∀ b, bf k = some b → b < k) (hq : ∀ k, k < cn → ∀ q, sr (rc k) = some q → q < k) (hd : iD cn dp bf rc sr) (ha : ∀ k, k < cn → ∀ a, an k = some a → a < 2 ^ 31) (hn40 : n ≤ 40) (hc : ∀ k, k < n → ch k = cc (40 * j + k) ∧ ch k < cn) (hl : ∀ k, tb ll k = (decide (k < cn) && inO (an k) 0 le)) {lc kc : Nat} {lt sd : Nat → Option Nat} (hK : iK n ch sb (lt j) (sd j) lc kc) (hsu : ∀ k, su k < 4) :
    ∀ d, le + d < 2 ^ 31 - 1 → ∃ (n2 : Nat) (ll2 : Int64) (lc2 kc2 : Nat) (lt2 sd2 : Nat → Option Nat) (su2 : Nat → Nat), it_S (ln_S an (fun i => rc (ch i)) dp ch sr cn) d (n, le, ll, lc, kc, su) = (n2, le + d, ll2, lc2, kc2, su2) ∧ it_S (nx_S bf rc sr an cc j cn) d (n, le, lt, sd, su) = (n2, le + d, lt2, sd2, su2) ∧ n2 ≤ n ∧
      (∀ k, tb ll2 k = (decide (k < cn) && inO (an k) 0 (le + d))) ∧ iK n2 ch sb (lt2 j) (sd2 j) lc2 kc2 ∧ (∀ i, i ≠ j → lt2 i = lt i ∧ sd2 i = sd i) ∧ (∀ k, su2 k < 4)
  | 0, _ => ⟨n, ll, lc, kc, lt, sd, su, rfl, rfl, Nat.le_refl _, hl, hK, fun _ _ => ⟨rfl, rfl⟩, hsu⟩
  | d + 1, hd1 => by
    obtain ⟨n2, ll2, lc2, kc2, lt2, sd2, su2, e1, e2, h3, h4, h5, h6, h7⟩ := ln_it hcn hb hq hd ha hn40 hc hl hK hsu d (by omega)
    obtain ⟨g1, g2, g3⟩ := ln_1 (su := su2) (j := j) (cc := cc) (n := n2) (le := le + d) hcn hb hq hd ha (by omega) (fun k hk => hc k (by omega)) h4
    have hkp : fo_N (hb_B dp ch (ab_S an (le + d) cn)) n2 0 ≤ n2 := fo_N_le0 _ _
    refine ⟨(fo_N (hb_B dp ch (ab_S an (le + d) cn)) n2 0), (ll2 ||| ab_S an (le + d) cn), dl_1 (fo_N (hb_B dp ch (ab_S an (le + d) cn)) n2 0) lc2 kc2, dl_2 (fo_N (hb_B dp ch (ab_S an (le + d) cn)) n2 0) lc2 kc2, dr_L lt2 sd2 j (fo_N (hb_B dp ch (ab_S an (le + d) cn)) n2 0), dr_S lt2 sd2 j (fo_N (hb_B dp ch (ab_S an (le + d) cn)) n2 0), gb_F su2 (fun i => rc (ch i)) (ko_B sr dp (ll2 ||| ab_S an (le + d) cn)) (fo_N (hb_B dp ch (ab_S an (le + d) cn)) n2 0) (n2 - (fo_N (hb_B dp ch (ab_S an (le + d) cn)) n2 0)), ?_, ?_, ?_, g2, ?_, ?_, ?_⟩
    · show ln_S an (fun i => rc (ch i)) dp ch sr cn (it_S (ln_S an (fun i => rc (ch i)) dp ch sr cn) d (n, le, ll, lc, kc, su)) = _
      rw [e1]
      rfl
    · show nx_S bf rc sr an cc j cn (it_S (nx_S bf rc sr an cc j cn) d (n, le, lt, sd, su)) = _
      rw [e2]
      unfold nx_S
      dsimp only
      rw [← g1, ← g3]
      rfl
    · omega
    · exact dr_K (by omega) hkp h5
    · intro i hi
      have := dr_ne (lt := lt2) (sd := sd2) (n := fo_N (hb_B dp ch (ab_S an (le + d) cn)) n2 0) hi
      exact ⟨this.1.trans (h6 i hi).1, this.2.trans (h6 i hi).2⟩
    · exact gb_4 h7 _
theorem tb_b0 (x : Int64) {i : Nat} (hi : i < 64) : x &&& bt i = 0 ↔ tb x i = false := by
  rw [tb_and0]
  constructor
  · intro h
    cases hx : tb x i with
    | false => rfl
    | true =>
      have := h i hx
      rw [tb_bt hi] at this
      simp at this
  · intro h k hk
    rw [tb_bt hi]
    by_cases e : k = i
    · subst e; rw [h] at hk; cases hk
    · simp [e]
theorem an_ra (hcn : cn ≤ 40) (hli : ∀ k, tb li k = (decide (k < cn) && decide (fr k = j))) (w : Nat) : ∀ m, m ≤ cn → an_F an li w m = ra_F an fr j w m
  | 0, _ => rfl
  | m + 1, h => by
    unfold an_F ra_F
    rw [an_ra hcn hli w m (by omega)]
    have hm : m < cn := by omega
    by_cases e : fr m = j
    · have h1 : ¬ li &&& bt m = 0 := by
        rw [tb_b0 _ (by omega), hli]
        simp [hm, e]
      rw [if_neg h1, if_pos e]
    · have h1 : li &&& bt m = 0 := by
        rw [tb_b0 _ (by omega), hli]
        simp [e]
      rw [if_pos h1, if_neg e]
theorem ra_in {w : Nat} : ∀ {m k : Nat}, k < m → fr k = j → ra_F an fr j w m k = some w
  | 0, _, h, _ => absurd h (Nat.not_lt_zero _)
  | m + 1, k, h, e => by
    unfold ra_F
    by_cases q : k = m
    · subst q
      rw [if_pos e, va_up_self]
    · split
      · rw [va_up_ne _ _ q]; exact ra_in (by omega) e
      · exact ra_in (by omega) e
theorem ra_out {w : Nat} : ∀ {m k : Nat}, ¬ fr k = j → ra_F an fr j w m k = an k
  | 0, _, _ => rfl
  | m + 1, k, e => by
    unfold ra_F
    split
    · rename_i h
      rw [va_up_ne _ _ (fun q => e (by rw [q]; exact h))]; exact ra_out e
    · exact ra_out e
theorem rf_in : ∀ {m k : Nat}, k < m → fr k = j → rf_F fr j m k = 3
  | 0, _, h, _ => absurd h (Nat.not_lt_zero _)
  | m + 1, k, h, e => by
    unfold rf_F
    by_cases q : k = m
    · subst q
      rw [if_pos e, va_up_self]
    · split
      · rw [va_up_ne _ _ q]; exact rf_in (by omega) e
      · exact rf_in (by omega) e
theorem rf_out : ∀ {m k : Nat}, ¬ fr k = j → rf_F fr j m k = fr k
  | 0, _, _ => rfl
  | m + 1, k, e => by
    unfold rf_F
    split
    · rename_i h
      rw [va_up_ne _ _ (fun q => e (by rw [q]; exact h))]; exact rf_out e
    · exact rf_out e
end LRN
-- ===== release =====
section REL
variable {j cn n oc : Nat} {dp : Nat → Int64} {bf sr : Nat → Option Nat} {rc cc ch : Nat → Nat} {sb ot : Nat → Bool} {sS rS : Int64} {sv ou sh : Nat → Int32}
theorem re_cond (hcn : cn ≤ 40) (hb : ∀ k, k < cn → ∀ b, bf k = some b → b < k) (hq : ∀ k, k < cn → ∀ q, sr (rc k) = some q → q < k) (hd : iD cn dp bf rc sr) (hS : ∀ k, tb sS k = (decide (k < cn) && sb k)) (c : Nat) (hc : c < cn) (hr : ∀ k, tb rS k = (decide (k < cn) && ot k)) : rl_B sv dp sS rS c = true ↔ (¬ sv c &&& nI 4 = 0 ∧ ot c = false ∧ dst_B bf rc sr sb (some c) cn = true) := by
  unfold rl_B
  rw [dst_dp hcn hb hq hd c hc sS sb hS, Bool.and_eq_true, Bool.and_eq_true, Bool.not_eq_true', decide_eq_false_iff_not, decide_eq_true_iff, tb_b0 _ (by omega), hr]
  simp [hc, and_assoc]
theorem re_rr (hcn : cn ≤ 40) (hb : ∀ k, k < cn → ∀ b, bf k = some b → b < k) (hq : ∀ k, k < cn → ∀ q, sr (rc k) = some q → q < k) (hd : iD cn dp bf rc sr) (hS : ∀ k, tb sS k = (decide (k < cn) && sb k)) (hc : ∀ k, k < n → ch k = cc (40 * j + k) ∧ ch k < cn) (hr : ∀ k, tb rS k = (decide (k < cn) && ot k)) (hoc : oc ≤ ct ot cn) (hou : ∀ k, k < oc → ou k = sh (40 * j + k)) :
    ∀ k, k ≤ n → ∃ (rS2 : Int64) (oc2 : Nat) (ou2 : Nat → Int32) (z2 : Nat) (ot2 : Nat → Bool) (sh2 : Nat → Int32), re_S sv dp sS ch (rS, oc, ou) k = (rS2, oc2, ou2) ∧ rr_S bf rc sr sb sv (fun i => cc (40 * j + i)) j cn (0, ot, sh, oc) k = (z2, ot2, sh2, oc2) ∧
      z2 + oc = oc2 ∧ (∀ t, tb rS2 t = (decide (t < cn) && ot2 t)) ∧ (∀ i, i < oc2 → ou2 i = sh2 (40 * j + i)) ∧ oc2 ≤ ct ot2 cn ∧ ct ot cn ≤ ct ot2 cn ∧ (∀ i, i ≠ j → ∀ z, z < 40 → sh2 (40 * i + z) = sh (40 * i + z))
  | 0, _ => ⟨rS, oc, ou, 0, ot, sh, rfl, rfl, by omega, hr, hou, hoc, Nat.le_refl _, fun _ _ _ _ => rfl⟩
  | k + 1, hk => by
    obtain ⟨rS2, oc2, ou2, z2, ot2, sh2, e1, e2, h1, h2, h3, h4, h5, h6⟩ := re_rr hcn hb hq hd hS hc hr hoc hou k (by omega)
    have hck := hc k (by omega)
    have hcond := re_cond (sv := sv) hcn hb hq hd hS (ch k) hck.2 h2
    by_cases hl : rl_B sv dp sS rS2 (ch k) = true
    · have hl2 := hcond.mp hl
      have hlt : ct ot2 cn < cn := ct_lt hck.2 hl2.2.1
      have hct : ct (va_up ot2 (ch k) true) cn = ct ot2 cn + 1 := by
        rw [ct_ins (f := ot2) (c := ch k) (fun t => by
          by_cases e : t = ch k
          · subst e; rw [va_up_self]; simp
          · rw [va_up_ne _ _ e]; simp [e]) hl2.2.1, if_pos hck.2]
      refine ⟨rS2 ||| bt (ch k), oc2 + 1, va_up ou2 oc2 (sv (ch k)), z2 + 1, va_up ot2 (ch k) true, va_up sh2 (40 * j + oc2) (sv (ch k)), ?_, ?_, by omega, ?_, ?_, by omega, by omega, ?_⟩
      · unfold re_S
        rw [e1]
        dsimp only
        rw [if_pos hl]
      · unfold rr_S
        rw [e2]
        dsimp only
        rw [hck.1] at hl2
        rw [if_pos hl2, hck.1]
      · intro t
        rw [tb_or, h2, tb_bt (by omega)]
        by_cases e : t = ch k
        · subst e; rw [va_up_self]; simp [hck.2]
        · rw [va_up_ne _ _ e]; simp [e]
      · intro i hi
        by_cases e : i = oc2
        · subst e; rw [va_up_self, va_up_self]
        · rw [va_up_ne _ _ e, va_up_ne _ _ (by omega)]; exact h3 i (by omega)
      · intro i hi z hz
        rw [va_up_ne _ _ (by omega)]
        exact h6 i hi z hz
    · have hl2 : ¬ (¬ sv (ch k) &&& nI 4 = 0 ∧ ot2 (ch k) = false ∧ dst_B bf rc sr sb (some (ch k)) cn = true) := fun q => hl (hcond.mpr q)
      refine ⟨rS2, oc2, ou2, z2, ot2, sh2, ?_, ?_, h1, h2, h3, h4, h5, h6⟩
      · unfold re_S
        rw [e1]
        dsimp only
        rw [if_neg hl]
      · unfold rr_S
        rw [e2]
        dsimp only
        rw [hck.1] at hl2
        rw [if_neg hl2]
end REL
-- ===== orphans =====
section ORP
variable {j cn n : Nat} {dp : Nat → Int64} {bf sr an : Nat → Option Nat} {rc cc ch tg fr lg : Nat → Nat} {lo dw : Nat → Bool} {lS : Int64}
theorem fo_ct {P : Nat → Bool} : ∀ (f k : Nat), (∀ i, k ≤ i → i + 1 < k + f → P i = true → P (i + 1) = true) → ct (fun i => P (k + i)) f = k + f - fo_N P f k
  | 0, k, _ => by
    show 0 = k + 0 - k
    omega
  | f + 1, k, h => by
    unfold fo_N
    by_cases hp : P k = true
    · rw [if_pos hp]
      have all : ∀ d, d < f + 1 → P (k + d) = true := by
        intro d
        induction d with
        | zero => intro _; exact hp
        | succ d ih => intro hd; exact h (k + d) (by omega) (by omega) (ih (by omega))
      have : ∀ m, m ≤ f + 1 → ct (fun i => P (k + i)) m = m := by
        intro m
        induction m with
        | zero => intro _; rfl
        | succ m ih =>
          intro hm
          unfold ct
          rw [ih (by omega), all m (by omega)]
          rfl
      rw [this (f + 1) (Nat.le_refl _)]
      omega
    · rw [if_neg hp]
      have ih := fo_ct f (k + 1) (fun i h1 h2 => h i (by omega) (by omega))
      have e : ct (fun i => P (k + i)) (1 + f) = ct (fun i => P (k + i)) 1 + ct (fun i => P (k + (1 + i))) f := ct_add _ 1 f
      have e1 : ct (fun i => P (k + i)) 1 = 0 := by
        show 0 + (if P (k + 0) = true then 1 else 0) = 0
        rw [Nat.add_zero, if_neg hp]
      rw [show f + 1 = 1 + f by omega, e, e1, show (fun i => P (k + (1 + i))) = (fun i => P (k + 1 + i)) from funext (fun i => by rw [Nat.add_assoc]), ih]
      omega
theorem hb_up (hcn : cn ≤ 40) (hd : iD cn dp bf rc sr) (hC : iC j cn n ch cc bf rc tg fr an) (st : Int64) {k : Nat} (hk : k + 1 < n) (h : hb_B dp ch st k = true) : hb_B dp ch st (k + 1) = true := by
  unfold hb_B at h ⊢
  rw [tb_n0] at h ⊢
  obtain ⟨t, h1, h2⟩ := h
  have hk1 := hC (k + 1) hk
  exact ⟨t, (dp_or hcn hd hk1.2.1 t).mpr (Or.inl ⟨ch k, hk1.2.2.1, h1⟩), h2⟩
theorem or_1 (hcn : cn ≤ 40) (hb : ∀ k, k < cn → ∀ b, bf k = some b → b < k) (hq : ∀ k, k < cn → ∀ q, sr (rc k) = some q → q < k) (hd : iD cn dp bf rc sr) (hC : iC j cn n ch cc bf rc tg fr an) (hl : ∀ k, tb lS k = (decide (k < cn) && lo k)) (hdw : dw j = false) : or_I bf rc sr lo cc dw cn j n = n - fo_N (hb_B dp ch lS) n 0 := by
  have e : ∀ m, m ≤ n → or_I bf rc sr lo cc dw cn j m = ct (fun i => hb_B dp ch lS (0 + i)) m := by
    intro m
    induction m with
    | zero => intro _; rfl
    | succ m ih =>
      intro hm
      unfold or_I ct
      rw [ih (by omega)]
      have hm1 := hC m (by omega)
      have h1 : hb_B dp ch lS (0 + m) = dlo_B bf rc sr lo (some (cc (40 * j + m))) cn := by
        rw [Nat.zero_add, ← hm1.1]
        exact dlo_dp hcn hb hq hd (some (ch m)) (fun z e => by cases e; exact hm1.2.1) lS lo hl
      rw [h1]
      simp [hdw]
  rw [e n (Nat.le_refl _), fo_ct n 0 (fun i _ h2 h3 => hb_up hcn hd hC lS (by omega) h3)]
  omega
theorem or_0 (hdw : dw j = true) : ∀ m, or_I bf rc sr lo cc dw cn j m = 0
  | 0 => rfl
  | m + 1 => by
    unfold or_I
    rw [or_0 hdw m]
    simp [hdw]
end ORP
