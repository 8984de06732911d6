-- short words for the objects' cells
abbrev zI (i0 i1 i2 i3 i4 cn : Nat) (sS lS rS : Int64) : Nat × va_E := (i0, .inr (0, [.ref i1, .ref i2, .ref i3, .ref i4, .int (nI cn), .long sS, .long lS, .long rS]))
abbrev zM (m0 m1 m2 m3 m4 m5 mn mi : Nat) : Nat × va_E := (m0, .inr (1, [.ref m1, .ref m2, .ref m3, .ref m4, .ref m5, .int (nI mn), .int (nI mi)]))
abbrev zP (h a b : Nat) (dn : Bool) (n oc le : Nat) (ll li : Int64) (lc kc : Nat) (rp : Int32) : Nat × va_E := (h, .inr (2, [.ref a, .ref b, .int (bI dn), .int (nI n), .int (nI oc), .int (nI le), .long ll, .long li, .int (nI lc), .int (nI kc), .int rp]))
abbrev zO (o0 oa i0 m0 nn : Nat) : Nat × va_E := (o0, .inr (3, [.ref oa, .ref i0, .ref m0, .int (nI nn)]))
abbrev zR (r : Nat → Nat) (cn mn mi nn : Nat) : Nat × va_E := (r 0, .inr (4, [.int (nI cn), .ref (r 1), .ref (r 2), .ref (r 3), .ref (r 4), .ref (r 5), .ref (r 6), .ref (r 7), .ref (r 8), .ref (r 9), .int (nI mn), .int (nI mi), .ref (r 12), .ref (r 13), .ref (r 14), .ref (r 15), .ref (r 16), .int (nI nn), .ref (r 18), .ref (r 19), .ref (r 20), .ref (r 21), .ref (r 22), .ref (r 23), .ref (r 24), .ref (r 25), .ref (r 26)]))
-- ===== what the class's methods compute =====
def bto (o : Option Nat) : Int64 := (1 : Int64) <<< ((oI o).toInt64 &&& 63)
/-- a bit of a long -/
def tb (x : Int64) (k : Nat) : Bool := x.toBitVec.getLsbD k
/-- how many of the first n places -/
def ct (f : Nat → Bool) : Nat → Nat
  | 0 => 0
  | n + 1 => ct f n + (if f n then 1 else 0)
def pc64 (x : Int64) : Nat := ct (tb x) 64
def cs_set (ch : Nat → Nat) : Nat → Int64
  | 0 => 0
  | k + 1 => cs_set ch k ||| bt (ch k)
def an_F (an : Nat → Option Nat) (st : Int64) (w : Nat) : Nat → Nat → Option Nat
  | 0 => an
  | k + 1 => if st &&& bt k = 0 then an_F an st w k else va_up (an_F an st w k) k (some w)
def ab_S (an : Nat → Option Nat) (w : Nat) : Nat → Int64
  | 0 => 0
  | k + 1 => if an k = some w then ab_S an w k ||| bt k else ab_S an w k
def rl_B (sv : Nat → Int32) (dp : Nat → Int64) (sS rS : Int64) (j : Nat) : Bool := !decide (sv j &&& nI 4 = 0) && decide (rS &&& bt j = 0) && decide (dp j &&& (sS ^^^ (-1)) = 0)
def rv_F (su : Nat → Nat) (sr : Nat → Option Nat) (st : Int64) : Nat → Nat → Nat
  | 0 => su
  | k + 1 => if su k = 2 ∧ ¬ st &&& bto (sr k) = 0 then va_up (rv_F su sr st k) k 0 else rv_F su sr st k
def rv_C (su : Nat → Nat) (sr : Nat → Option Nat) (st : Int64) : Nat → Nat
  | 0 => 0
  | k + 1 => if su k = 2 ∧ ¬ st &&& bto (sr k) = 0 then rv_C su sr st k + 1 else rv_C su sr st k
def sae (sv : Nat → Int32) (ch : Nat → Nat) (n : Nat) : Int32 := if n = 0 then 0 else sv (ch (n - 1))
def dae (dp : Nat → Int64) (ch : Nat → Nat) (n : Nat) : Int64 := if n = 0 then 0 else dp (ch (n - 1))
def dsv (sr : Nat → Option Nat) (dp : Nat → Int64) (j : Nat) : Int64 := match sr j with
  | none => 0
  | some i => dp i
def ko_B (sr : Nat → Option Nat) (dp : Nat → Int64) (ll : Int64) (j : Nat) : Bool := !decide (dsv sr dp j &&& ll = 0)
def sb1 (t : Int32) : Bool := !decide (t &&& nI 1 = 0)
def sb2 (t : Int32) : Bool := !decide (t &&& nI 2 = 0)
def s1_F {α : Type} (b : Bool) (f : Nat → α) (n : Nat) (v : α) : Nat → α := if b = true then va_up f n v else f
def sd_F {α : Type} (b1 b2 : Bool) (f : Nat → α) (n : Nat) (v1 v2 : α) : Nat → α := s1_F b2 (s1_F b1 f n v1) (n + b1.toNat) v2
/-- the first place from k on, of f of them -/
def fo_N (P : Nat → Bool) : Nat → Nat → Nat
  | 0, k => k
  | f + 1, k => if P k then k else fo_N P f (k + 1)
def hb_B (dp : Nat → Int64) (ch : Nat → Nat) (st : Int64) (k : Nat) : Bool := !decide (dp (ch k) &&& st = 0)
def lu_F (su : Nat → Nat) (f : Nat → Nat) (kp : Nat) : Nat → Nat → Nat
  | 0 => su
  | i + 1 => va_up (lu_F su f kp i) (f (kp + i)) 2
def gb_F (su : Nat → Nat) (f : Nat → Nat) (o : Nat → Bool) (kp : Nat) : Nat → Nat → Nat
  | 0 => su
  | i + 1 => va_up (gb_F su f o kp i) (f (kp + i)) (if o (f (kp + i)) then 3 else 0)
def dl_1 (n lc kc : Nat) : Nat := if n < kc then 0 else if n < lc then kc else lc
def dl_2 (n lc kc : Nat) : Nat := if n < kc then 0 else if n < lc then 0 else kc
def it_S {α : Type} (f : α → α) : Nat → α → α
  | 0, q => q
  | k + 1, q => f (it_S f k q)
def ln_S (an : Nat → Option Nat) (f : Nat → Nat) (dp : Nat → Int64) (ch : Nat → Nat) (sr : Nat → Option Nat) (cn : Nat) (q : Nat × Nat × Int64 × Nat × Nat × (Nat → Nat)) : Nat × Nat × Int64 × Nat × Nat × (Nat → Nat) :=
  (fo_N (hb_B dp ch (ab_S an q.2.1 cn)) q.1 0, q.2.1 + 1, q.2.2.1 ||| ab_S an q.2.1 cn,
   dl_1 (fo_N (hb_B dp ch (ab_S an q.2.1 cn)) q.1 0) q.2.2.2.1 q.2.2.2.2.1, dl_2 (fo_N (hb_B dp ch (ab_S an q.2.1 cn)) q.1 0) q.2.2.2.1 q.2.2.2.2.1,
   gb_F q.2.2.2.2.2 f (ko_B sr dp (q.2.2.1 ||| ab_S an q.2.1 cn)) (fo_N (hb_B dp ch (ab_S an q.2.1 cn)) q.1 0) (q.1 - fo_N (hb_B dp ch (ab_S an q.2.1 cn)) q.1 0))
def re_S (sv : Nat → Int32) (dp : Nat → Int64) (sS : Int64) (ch : Nat → Nat) (q0 : Int64 × Nat × (Nat → Int32)) : Nat → Int64 × Nat × (Nat → Int32)
  | 0 => q0
  | k + 1 => if rl_B sv dp sS (re_S sv dp sS ch q0 k).1 (ch k) = true then
      ((re_S sv dp sS ch q0 k).1 ||| bt (ch k), (re_S sv dp sS ch q0 k).2.1 + 1, va_up (re_S sv dp sS ch q0 k).2.2 (re_S sv dp sS ch q0 k).2.1 (sv (ch k)))
    else re_S sv dp sS ch q0 k
def lo_B (su : Nat → Nat) (sr : Nat → Option Nat) (k : Nat) : Bool := decide (su k = 0) && !decide (sr k = none)
-- ===== what the reference's methods compute =====
def pd_ : Nat → Option Nat
  | 0 => none
  | m + 1 => some m
def pu_ (o : Option Nat) : Nat := match o with
  | none => 0
  | some i => i + 1
def tr_0 (mk : Nat → Bool) (io : Option Nat) (k : Nat) : Nat → Bool := fun i => if i < k then decide (io = some i) else mk i
def tr_S (bf : Nat → Option Nat) (rc : Nat → Nat) (sr : Nat → Option Nat) : Nat → (Nat → Bool) → (Nat → Bool)
  | 0, g => g
  | k + 1, g => tr_S bf rc sr k (if g k = true then
      (match sr (rc k) with
        | none => (match bf k with | none => g | some b => va_up g b true)
        | some q => va_up (match bf k with | none => g | some b => va_up g b true) q true)
    else g)
def tr_M (bf : Nat → Option Nat) (rc : Nat → Nat) (sr : Nat → Option Nat) (mk : Nat → Bool) (io : Option Nat) : Nat → Bool := tr_S bf rc sr (pu_ io) (tr_0 mk io 40)
def ht_F (mk : Nat → Bool) (an : Nat → Option Nat) (x1 x2 : Nat) : Nat → Bool
  | 0 => false
  | k + 1 => ht_F mk an x1 x2 k || (mk k && !decide (oI (an k) < nI x1) && !decide (nI x2 ≤ oI (an k)))
def hi_B (bf : Nat → Option Nat) (rc : Nat → Nat) (sr an : Nat → Option Nat) (io : Option Nat) (x1 x2 cn : Nat) : Bool := ht_F (tr_M bf rc sr (fun _ => false) io) an x1 x2 cn
def dl_F (mk lo : Nat → Bool) : Nat → Bool
  | 0 => false
  | k + 1 => dl_F mk lo k || (mk k && lo k)
def dlo_B (bf : Nat → Option Nat) (rc : Nat → Nat) (sr : Nat → Option Nat) (lo : Nat → Bool) (io : Option Nat) (cn : Nat) : Bool := dl_F (tr_M bf rc sr (fun _ => false) io) lo cn
def ds_F (mk sb : Nat → Bool) : Nat → Bool
  | 0 => true
  | k + 1 => ds_F mk sb k && (!mk k || sb k)
def dst_B (bf : Nat → Option Nat) (rc : Nat → Nat) (sr : Nat → Option Nat) (sb : Nat → Bool) (io : Option Nat) (cn : Nat) : Bool := ds_F (tr_M bf rc sr (fun _ => false) io) sb cn
def sof (sv : Nat → Int32) (cc : Nat → Nat) (j n : Nat) : Int32 := if n = 0 then 0 else sv (cc (40 * j + n - 1))
def se_S (sb : Nat → Bool) (f : Nat → Nat) : Nat → Nat × (Nat → Bool)
  | 0 => (0, sb)
  | k + 1 => (if (se_S sb f k).2 (f k) = true then (se_S sb f k).1 else (se_S sb f k).1 + 1, va_up (se_S sb f k).2 (f k) true)
def on_F (f : Nat → Nat) (io : Option Nat) : Nat → Bool
  | 0 => false
  | k + 1 => on_F f io k || decide (io = some (f k))
def dr_S1 (sd : Nat → Option Nat) (j n : Nat) : Nat → Option Nat := if oI (sd j) ≤ nI n then sd else va_up sd j none
def dr_L (lt sd : Nat → Option Nat) (j n : Nat) : Nat → Option Nat := if oI (lt j) ≤ nI n then lt else va_up lt j (dr_S1 sd j n j)
def dr_S (lt sd : Nat → Option Nat) (j n : Nat) : Nat → Option Nat := if oI (lt j) ≤ nI n then dr_S1 sd j n else va_up (dr_S1 sd j n) j none
def rp_V (v : Int32) (n : Nat) (o : Option Nat) : Int32 := (v + nI n) - (match o with
  | none => nI 0
  | some q => nI q)
def bv_O (cc : Nat → Nat) (j n : Nat) : Option Nat := if n = 0 then none else some (cc (40 * j + n - 1))
def ck_L (lt : Nat → Option Nat) (j n : Nat) : Nat → Option Nat := if lt j = some n then lt else va_up lt j (some n)
def ck_S (lt sd : Nat → Option Nat) (j n : Nat) : Nat → Option Nat := if lt j = some n then sd else va_up sd j (lt j)
def rs_F (su : Nat → Nat) (sr : Nat → Option Nat) (f : Nat → Nat) (n : Nat) : Nat → Nat → Nat
  | 0 => su
  | k + 1 => if su k = 2 ∧ on_F f (sr k) n = true then va_up (rs_F su sr f n k) k 0 else rs_F su sr f n k
def rs_C (su : Nat → Nat) (sr : Nat → Option Nat) (f : Nat → Nat) (n : Nat) : Nat → Nat
  | 0 => 0
  | k + 1 => if su k = 2 ∧ on_F f (sr k) n = true then rs_C su sr f n k + 1 else rs_C su sr f n k
def cr_S (sb : Nat → Bool) (rc : Nat → Nat) (j : Nat) (q0 : (Nat → Nat) × (Nat → Bool) × (Nat → Nat) × (Nat → Nat)) : Nat → Nat × (Nat → Nat) × (Nat → Bool) × (Nat → Nat) × (Nat → Nat)
  | 0 => (0, q0)
  | k + 1 => if sb ((cr_S sb rc j q0 k).2.1 (40 * j + k)) = true then
      ((cr_S sb rc j q0 k).1 + 1, va_up (cr_S sb rc j q0 k).2.1 (40 * j + (cr_S sb rc j q0 k).1) ((cr_S sb rc j q0 k).2.1 (40 * j + k)), (cr_S sb rc j q0 k).2.2)
    else ((cr_S sb rc j q0 k).1, (cr_S sb rc j q0 k).2.1, va_up (cr_S sb rc j q0 k).2.2.1 ((cr_S sb rc j q0 k).2.1 (40 * j + k)) true, va_up (cr_S sb rc j q0 k).2.2.2.1 ((cr_S sb rc j q0 k).2.1 (40 * j + k)) j, va_up (cr_S sb rc j q0 k).2.2.2.2 (rc ((cr_S sb rc j q0 k).2.1 (40 * j + k))) 2)
def nx_S (bf : Nat → Option Nat) (rc : Nat → Nat) (sr an : Nat → Option Nat) (cc : Nat → Nat) (j cn : Nat) (q : Nat × Nat × (Nat → Option Nat) × (Nat → Option Nat) × (Nat → Nat)) : Nat × Nat × (Nat → Option Nat) × (Nat → Option Nat) × (Nat → Nat) :=
  (fo_N (fun i => hi_B bf rc sr an (some (cc (40 * j + i))) q.2.1 (q.2.1 + 1) cn) q.1 0, q.2.1 + 1,
   dr_L q.2.2.1 q.2.2.2.1 j (fo_N (fun i => hi_B bf rc sr an (some (cc (40 * j + i))) q.2.1 (q.2.1 + 1) cn) q.1 0),
   dr_S q.2.2.1 q.2.2.2.1 j (fo_N (fun i => hi_B bf rc sr an (some (cc (40 * j + i))) q.2.1 (q.2.1 + 1) cn) q.1 0),
   gb_F q.2.2.2.2 (fun i => rc (cc (40 * j + i))) (fun z => hi_B bf rc sr an (sr z) 0 (q.2.1 + 1) cn) (fo_N (fun i => hi_B bf rc sr an (some (cc (40 * j + i))) q.2.1 (q.2.1 + 1) cn) q.1 0) (q.1 - fo_N (fun i => hi_B bf rc sr an (some (cc (40 * j + i))) q.2.1 (q.2.1 + 1) cn) q.1 0))
def rf_F (fr : Nat → Nat) (j : Nat) : Nat → Nat → Nat
  | 0 => fr
  | k + 1 => if fr k = j then va_up (rf_F fr j k) k 3 else rf_F fr j k
def ra_F (an : Nat → Option Nat) (fr : Nat → Nat) (j nn : Nat) : Nat → Nat → Option Nat
  | 0 => an
  | k + 1 => if fr k = j then va_up (ra_F an fr j nn k) k (some nn) else ra_F an fr j nn k
def rr_S (bf : Nat → Option Nat) (rc : Nat → Nat) (sr : Nat → Option Nat) (sb : Nat → Bool) (sv : Nat → Int32) (f : Nat → Nat) (j cn : Nat) (q0 : Nat × (Nat → Bool) × (Nat → Int32) × Nat) : Nat → Nat × (Nat → Bool) × (Nat → Int32) × Nat
  | 0 => q0
  | k + 1 => if ¬ sv (f k) &&& nI 4 = 0 ∧ (rr_S bf rc sr sb sv f j cn q0 k).2.1 (f k) = false ∧ dst_B bf rc sr sb (some (f k)) cn = true then
      ((rr_S bf rc sr sb sv f j cn q0 k).1 + 1, va_up (rr_S bf rc sr sb sv f j cn q0 k).2.1 (f k) true, va_up (rr_S bf rc sr sb sv f j cn q0 k).2.2.1 (40 * j + (rr_S bf rc sr sb sv f j cn q0 k).2.2.2) (sv (f k)), (rr_S bf rc sr sb sv f j cn q0 k).2.2.2 + 1)
    else rr_S bf rc sr sb sv f j cn q0 k
def or_I (bf : Nat → Option Nat) (rc : Nat → Nat) (sr : Nat → Option Nat) (lo : Nat → Bool) (cc : Nat → Nat) (dw : Nat → Bool) (cn j : Nat) : Nat → Nat
  | 0 => 0
  | k + 1 => or_I bf rc sr lo cc dw cn j k + (if dw j = false ∧ dlo_B bf rc sr lo (some (cc (40 * j + k))) cn = true then 1 else 0)
def or_T (bf : Nat → Option Nat) (rc : Nat → Nat) (sr : Nat → Option Nat) (lo : Nat → Bool) (cc lg : Nat → Nat) (dw : Nat → Bool) (cn : Nat) : Nat → Nat
  | 0 => 0
  | j + 1 => or_T bf rc sr lo cc lg dw cn j + or_I bf rc sr lo cc dw cn j (lg j)
-- ===== small rows that the walks use =====
theorem va_up_eta {α : Type} (f : Nat → α) (k : Nat) : va_up f k (f k) = f := by
  funext j
  by_cases h : j = k <;> simp [va_up, h]
theorem nI_o : nI 1 = 1 := by decide +kernel
theorem sb_T {n : Nat} (hn : n < 2 ^ 31) (h : 0 ≤ nI n - nI 1) : ¬ n = 0 := by
  intro h0
  subst h0
  exact absurd h (by decide +kernel)
theorem sb_F {n : Nat} (hn : n < 2 ^ 31) (h : ¬ 0 ≤ nI n - nI 1) : n = 0 := by
  cases n with
  | zero => rfl
  | succ k =>
    rw [pk_sub (by omega)] at h
    exact absurd (nI_pos' (by omega)) h
theorem oI_n {o : Option Nat} {a : Nat} (h : ∀ i, o = some i → i < 2 ^ 31) (ha : a < 2 ^ 31) : oI o = nI a ↔ o = some a := by
  cases o with
  | none =>
    constructor
    · intro q
      have q2 : (-1 : Int32).toInt = (nI a).toInt := by rw [show (-1 : Int32) = nI a from q]
      rw [nI_toInt ha] at q2
      have q3 : ((-1 : Int32)).toInt = -1 := by decide +kernel
      omega
    · intro q; cases q
  | some i =>
    have hi := h i rfl
    constructor
    · intro q; rw [(nI_eq hi ha).mp q]
    · intro q; cases q; rfl
theorem nI_o_ {o : Option Nat} {a : Nat} (h : ∀ i, o = some i → i < 2 ^ 31) (ha : a < 2 ^ 31) : nI a = oI o ↔ o = some a := ⟨fun q => (oI_n h ha).mp q.symm, fun q => ((oI_n h ha).mpr q).symm⟩
theorem oI_ge {o : Option Nat} (h : ∀ i, o = some i → i < 2 ^ 31) (h9 : o = none) : ¬ 0 ≤ oI o := by
  subst h9
  decide +kernel
theorem oI_nge {o : Option Nat} (h : ∀ i, o = some i → i < 2 ^ 31) (hc : ¬ 0 ≤ oI o) : o = none := by
  cases o with
  | none => rfl
  | some i => exact absurd (nI_pos' (h i rfl)) hc
theorem fo_N_le (P : Nat → Bool) : ∀ f k, fo_N P f k ≤ k + f
  | 0, k => Nat.le_refl _
  | f + 1, k => by
    unfold fo_N
    split
    · omega
    · have := fo_N_le P f (k + 1)
      omega
theorem fo_N_le0 (P : Nat → Bool) (n : Nat) : fo_N P n 0 ≤ n := by
  have := fo_N_le P n 0
  omega
theorem dl_1_le (n : Nat) {lc kc : Nat} (h1 : lc ≤ 40) (h2 : kc ≤ 40) : dl_1 n lc kc ≤ 40 := by
  unfold dl_1
  split
  · omega
  · split <;> omega
theorem dl_2_le (n : Nat) {lc kc : Nat} (h1 : lc ≤ 40) (h2 : kc ≤ 40) : dl_2 n lc kc ≤ 40 := by
  unfold dl_2
  split
  · omega
  · split <;> omega
theorem s1_F_lt {α : Type} {b : Bool} {f : Nat → α} (n : Nat) (v : α) {j : Nat} (h : j < n) : s1_F b f n v j = f j := by
  unfold s1_F
  split
  · exact va_up_ne _ _ (by omega)
  · rfl
theorem sd_F_lt {α : Type} (b1 b2 : Bool) {f : Nat → α} {n : Nat} (v1 v2 : α) {j : Nat} (h : j < n) : sd_F b1 b2 f n v1 v2 j = f j := by
  unfold sd_F
  rw [s1_F_lt _ _ (by omega), s1_F_lt _ _ h]
theorem sb_le (b : Bool) : b.toNat ≤ 1 := by cases b <;> decide
theorem rv_F_ge (su : Nat → Nat) (sr : Nat → Option Nat) (st : Int64) : ∀ {k j : Nat}, k ≤ j → rv_F su sr st k j = su j
  | 0, j, _ => rfl
  | k + 1, j, h => by
    unfold rv_F
    split
    · rw [va_up_ne _ _ (by omega)]
      exact rv_F_ge su sr st (by omega)
    · exact rv_F_ge su sr st (by omega)
theorem rs_F_ge (su : Nat → Nat) (sr : Nat → Option Nat) (f : Nat → Nat) (n : Nat) : ∀ {k j : Nat}, k ≤ j → rs_F su sr f n k j = su j
  | 0, j, _ => rfl
  | k + 1, j, h => by
    unfold rs_F
    split
    · rw [va_up_ne _ _ (by omega)]
      exact rs_F_ge su sr f n (by omega)
    · exact rs_F_ge su sr f n (by omega)
theorem rf_F_ge (fr : Nat → Nat) (p : Nat) : ∀ {k j : Nat}, k ≤ j → rf_F fr p k j = fr j
  | 0, j, _ => rfl
  | k + 1, j, h => by
    unfold rf_F
    split
    · rw [va_up_ne _ _ (by omega)]
      exact rf_F_ge fr p (by omega)
    · exact rf_F_ge fr p (by omega)
theorem tr_00 (mk : Nat → Bool) (io : Option Nat) : tr_0 mk io 0 = mk := by
  funext i
  simp [tr_0]
theorem tr_0_s (mk : Nat → Bool) (io : Option Nat) (k : Nat) : tr_0 mk io (k + 1) = va_up (tr_0 mk io k) k (decide (io = some k)) := by
  funext i
  by_cases h : i = k
  · subst h
    simp [tr_0, va_up]
  · by_cases h2 : i < k
    · simp [tr_0, va_up, h, h2, show i < k + 1 by omega]
    · simp [tr_0, va_up, h, h2, show ¬ i < k + 1 by omega]
theorem pd_pu (o : Option Nat) : pd_ (pu_ o) = o := by cases o <;> rfl
theorem pu_le {o : Option Nat} {n : Nat} (h : ∀ i, o = some i → i < n) : pu_ o ≤ n := by
  cases o with
  | none => exact Nat.zero_le _
  | some i => exact h i rfl
theorem pd_lt {k : Nat} (h : k < 2 ^ 31) : ∀ i, pd_ k = some i → i < 2 ^ 31 := by
  cases k with
  | zero => intro i q; cases q
  | succ m => intro i q; cases q; omega
theorem pd_some {k : Nat} (h : ¬ pd_ k = none) : ∃ q, k = q + 1 := by
  cases k with
  | zero => exact absurd rfl h
  | succ m => exact ⟨m, rfl⟩
theorem pd_none {k : Nat} (h : pd_ k = none) : k = 0 := by
  cases k with
  | zero => rfl
  | succ m => cases h
theorem pd_sub {n : Nat} (h : n < 2 ^ 31) : nI n - nI 1 = oI (pd_ n) := by
  cases n with
  | zero => decide +kernel
  | succ m => rw [pk_sub (by omega)]; rfl
theorem pd_dec {q : Nat} (h : q < 2 ^ 31) : oI (pd_ (q + 1)) + Int32.ofInt (-1) = oI (pd_ q) := by
  show nI q + (-1) = oI (pd_ q)
  cases q with
  | zero => decide +kernel
  | succ m => exact pk_m1 m
theorem ge3_gt2 {y : Int32} (h : nI 3 ≤ y) : nI 2 < y := by
  have h1 : (nI 3).toInt ≤ y.toInt := Int32.le_iff_toInt_le.mp h
  rw [nI_toInt (by omega)] at h1
  refine Int32.lt_iff_toInt_lt.mpr ?_
  rw [nI_toInt (by omega)]
  omega
theorem nlt_le {x y : Int32} (h : x < y) (h2 : y ≤ x) : False := by
  have a1 := Int32.lt_iff_toInt_lt.mp h
  have a2 := Int32.le_iff_toInt_le.mp h2
  omega
theorem cc_push {cc : Nat → Nat} {j n cn : Nat} (h : ∀ i, i < n → cc (40 * j + i) < 40) (hcn : cn < 40) : ∀ i, i < n + 1 → (va_up cc (40 * j + n) cn) (40 * j + i) < 40 := by
  intro i hi
  by_cases e : i = n
  · subst e
    rw [va_up_self]
    exact hcn
  · rw [va_up_ne _ _ (by omega)]
    exact h i (by omega)
