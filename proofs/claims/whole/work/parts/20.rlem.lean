-- the marks from 40 on do not matter
theorem tr_up_ag {n : Nat} {g g' : Nat → Bool} (h : ∀ j, j < n → g j = g' j) (b : Nat) : ∀ j, j < n → va_up g b true j = va_up g' b true j := by
  intro j hj
  unfold va_up
  split
  · rfl
  · exact h j hj
theorem tr_S_ag (bf : Nat → Option Nat) (rc : Nat → Nat) (sr : Nat → Option Nat) (n : Nat) : ∀ (k : Nat) (g g' : Nat → Bool), k ≤ n → (∀ j, j < n → g j = g' j) → ∀ j, j < n → tr_S bf rc sr k g j = tr_S bf rc sr k g' j
  | 0, g, g', _, h => h
  | k + 1, g, g', hk, h => by
    unfold tr_S
    refine tr_S_ag bf rc sr n k _ _ (by omega) ?_
    rw [← h k (by omega)]
    split
    · have hb : ∀ j, j < n → (match bf k with | none => g | some b => va_up g b true) j = (match bf k with | none => g' | some b => va_up g' b true) j := by
        cases bf k with
        | none => exact h
        | some b => exact tr_up_ag h b
      cases sr (rc k) with
      | none => exact hb
      | some q => exact tr_up_ag hb q
    · exact h
theorem tr_M_ag (bf : Nat → Option Nat) (rc : Nat → Nat) (sr : Nat → Option Nat) (mk : Nat → Bool) (io : Option Nat) (hio : ∀ i, io = some i → i < 40) : ∀ j, j < 40 → tr_M bf rc sr mk io j = tr_M bf rc sr (fun _ => false) io j := by
  unfold tr_M
  refine tr_S_ag bf rc sr 40 _ _ _ (pu_le hio) (fun j hj => ?_)
  simp [tr_0, hj]
theorem ht_F_ag {mk mk' : Nat → Bool} (an : Nat → Option Nat) (x1 x2 : Nat) : ∀ {n : Nat}, (∀ j, j < n → mk j = mk' j) → ht_F mk an x1 x2 n = ht_F mk' an x1 x2 n
  | 0, _ => rfl
  | n + 1, h => by
    unfold ht_F
    rw [ht_F_ag an x1 x2 (fun j hj => h j (by omega)), h n (by omega)]
theorem dl_F_ag {mk mk' : Nat → Bool} (lo : Nat → Bool) : ∀ {n : Nat}, (∀ j, j < n → mk j = mk' j) → dl_F mk lo n = dl_F mk' lo n
  | 0, _ => rfl
  | n + 1, h => by
    unfold dl_F
    rw [dl_F_ag lo (fun j hj => h j (by omega)), h n (by omega)]
theorem ds_F_ag {mk mk' : Nat → Bool} (sb : Nat → Bool) : ∀ {n : Nat}, (∀ j, j < n → mk j = mk' j) → ds_F mk sb n = ds_F mk' sb n
  | 0, _ => rfl
  | n + 1, h => by
    unfold ds_F
    rw [ds_F_ag sb (fun j hj => h j (by omega)), h n (by omega)]
section RLE
variable {bf : Nat → Option Nat} {rc : Nat → Nat} {sr an : Nat → Option Nat} {mk lo sb : Nat → Bool} {io : Option Nat} {x1 x2 cn : Nat}
theorem hi_B_eq (hcn : cn ≤ 40) (hio : ∀ i, io = some i → i < cn) : ht_F (tr_M bf rc sr mk io) an x1 x2 cn = hi_B bf rc sr an io x1 x2 cn :=
  ht_F_ag an x1 x2 (fun j hj => tr_M_ag bf rc sr mk io (fun i q => Nat.lt_of_lt_of_le (hio i q) hcn) j (by omega))
theorem dlo_B_eq (hcn : cn ≤ 40) (hio : ∀ i, io = some i → i < cn) : dl_F (tr_M bf rc sr mk io) lo cn = dlo_B bf rc sr lo io cn :=
  dl_F_ag lo (fun j hj => tr_M_ag bf rc sr mk io (fun i q => Nat.lt_of_lt_of_le (hio i q) hcn) j (by omega))
theorem dst_B_eq (hcn : cn ≤ 40) (hio : ∀ i, io = some i → i < cn) : ds_F (tr_M bf rc sr mk io) sb cn = dst_B bf rc sr sb io cn :=
  ds_F_ag sb (fun j hj => tr_M_ag bf rc sr mk io (fun i q => Nat.lt_of_lt_of_le (hio i q) hcn) j (by omega))
end RLE
