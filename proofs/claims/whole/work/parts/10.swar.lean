-- the JDK's count of bits, byte by byte
def sM (b : Nat) : Nat → Nat
  | 0 => 0
  | k + 1 => b + 256 * sM b k
theorem sM_and {b : Nat} (hb : b < 256) (x k : Nat) : x &&& sM b (k + 1) = (x % 256 &&& b) + 256 * (x / 256 &&& sM b k) := by
  have h1 : (x &&& sM b (k + 1)) % 2 ^ 8 = (x % 2 ^ 8) &&& (sM b (k + 1) % 2 ^ 8) := Nat.and_mod_two_pow
  have h2 : (x &&& sM b (k + 1)) / 2 ^ 8 = (x / 2 ^ 8) &&& (sM b (k + 1) / 2 ^ 8) := Nat.and_div_two_pow
  have e1 : sM b (k + 1) % 2 ^ 8 = b := by simp only [sM]; omega
  have e2 : sM b (k + 1) / 2 ^ 8 = sM b k := by simp only [sM]; omega
  rw [e1] at h1
  rw [e2] at h2
  have h3 := Nat.div_add_mod (x &&& sM b (k + 1)) (2 ^ 8)
  rw [h1, h2] at h3
  have h4 : (2 : Nat) ^ 8 = 256 := by decide
  rw [h4] at h3
  omega
def sw_1 (k x : Nat) : Nat := x - (x / 2 &&& sM 85 k)
def sw_2 (k x : Nat) : Nat := (x &&& sM 51 k) + (x / 4 &&& sM 51 k)
def sw_3 (k x : Nat) : Nat := (x + x / 16) &&& sM 15 k
theorem sw_d1 : ∀ a, a < 128 → ∀ c, c < 2 → (a + 128 * c) &&& 85 = a &&& 85 := by decide +kernel
theorem sw_d2 : ∀ a, a < 64 → ∀ c, c < 4 → (a + 64 * c) &&& 51 = a &&& 51 := by decide +kernel
theorem sw_1s (k x : Nat) : sw_1 (k + 1) x = (x % 256 - (x % 256 / 2 &&& 85)) + 256 * sw_1 k (x / 256) := by
  unfold sw_1
  rw [sM_and (by decide)]
  have e1 : x / 2 % 256 = x % 256 / 2 + 128 * (x / 256 % 2) := by omega
  have e2 : x / 2 / 256 = x / 256 / 2 := by omega
  rw [e1, e2, sw_d1 _ (by omega) _ (by omega)]
  have h1 : x % 256 / 2 &&& 85 ≤ x % 256 / 2 := Nat.and_le_left
  have h2 : x / 256 / 2 &&& sM 85 k ≤ x / 256 / 2 := Nat.and_le_left
  omega
theorem sw_2s (k x : Nat) : sw_2 (k + 1) x = ((x % 256 &&& 51) + (x % 256 / 4 &&& 51)) + 256 * sw_2 k (x / 256) := by
  unfold sw_2
  rw [sM_and (by decide), sM_and (by decide)]
  have e1 : x / 4 % 256 = x % 256 / 4 + 64 * (x / 256 % 4) := by omega
  have e2 : x / 4 / 256 = x / 256 / 4 := by omega
  rw [e1, e2, sw_d2 _ (by omega) _ (by omega)]
  omega
theorem sw_15 (x : Nat) : x &&& 15 = x % 16 := Nat.and_two_pow_sub_one_eq_mod x 4
theorem sw_3s (k x : Nat) (h : x % 256 + x % 256 / 16 + 16 * (x / 256 % 16) < 256) : sw_3 (k + 1) x = (x % 256 + x % 256 / 16) % 16 + 256 * sw_3 k (x / 256) := by
  unfold sw_3
  rw [sM_and (by decide)]
  have e1 : (x + x / 16) % 256 = x % 256 + x % 256 / 16 + 16 * (x / 256 % 16) := by omega
  have e2 : (x + x / 16) / 256 = x / 256 + x / 256 / 16 := by omega
  rw [e1, e2, sw_15]
  omega
def sw_c1 (a : Nat) : Nat := a - (a / 2 &&& 85)
def sw_c2 (a : Nat) : Nat := (a &&& 51) + (a / 4 &&& 51)
def sw_p (a : Nat) : Nat := ct (fun k => a.testBit k) 8
theorem sw_b : ∀ a, a < 256 → sw_c1 a < 256 ∧ sw_c2 (sw_c1 a) < 256 ∧ sw_c2 (sw_c1 a) % 16 ≤ 4 ∧ sw_c2 (sw_c1 a) / 16 ≤ 4 ∧ (sw_c2 (sw_c1 a) + sw_c2 (sw_c1 a) / 16) % 16 = sw_p a ∧ sw_p a ≤ 8 := by decide +kernel
theorem sw_12 (k x : Nat) : sw_2 (k + 1) (sw_1 (k + 1) x) = sw_c2 (sw_c1 (x % 256)) + 256 * sw_2 k (sw_1 k (x / 256)) := by
  obtain ⟨h1, -⟩ := sw_b (x % 256) (Nat.mod_lt _ (by decide))
  have e : sw_1 (k + 1) x = sw_c1 (x % 256) + 256 * sw_1 k (x / 256) := sw_1s k x
  rw [sw_2s, show sw_1 (k + 1) x % 256 = sw_c1 (x % 256) by omega, show sw_1 (k + 1) x / 256 = sw_1 k (x / 256) by omega]
  rfl
theorem sw_16 (k x : Nat) : sw_2 k (sw_1 k x) % 16 ≤ 4 := by
  cases k with
  | zero => simp [sw_2, sM]
  | succ k =>
    obtain ⟨-, -, h3, -⟩ := sw_b (x % 256) (Nat.mod_lt _ (by decide))
    rw [sw_12]
    omega
theorem sw_g (k x : Nat) : sw_3 (k + 1) (sw_2 (k + 1) (sw_1 (k + 1) x)) = sw_p (x % 256) + 256 * sw_3 k (sw_2 k (sw_1 k (x / 256))) := by
  obtain ⟨-, h2, h3, h4, h5, -⟩ := sw_b (x % 256) (Nat.mod_lt _ (by decide))
  have h6 := sw_16 k (x / 256)
  have e := sw_12 k x
  have e1 : sw_2 (k + 1) (sw_1 (k + 1) x) % 256 = sw_c2 (sw_c1 (x % 256)) := by omega
  have e2 : sw_2 (k + 1) (sw_1 (k + 1) x) / 256 = sw_2 k (sw_1 k (x / 256)) := by omega
  rw [sw_3s _ _ (by rw [e1, e2]; omega), e1, e2, h5]
theorem ct_add (f : Nat → Bool) (a : Nat) : ∀ b, ct f (a + b) = ct f a + ct (fun j => f (a + j)) b
  | 0 => rfl
  | b + 1 => by
    show ct f (a + b) + _ = ct f a + (ct (fun j => f (a + j)) b + _)
    rw [ct_add f a b, Nat.add_assoc]
    rfl
theorem ct_cong {f g : Nat → Bool} : ∀ {n : Nat}, (∀ j, j < n → f j = g j) → ct f n = ct g n
  | 0, _ => rfl
  | n + 1, h => by
    show ct f n + _ = ct g n + _
    rw [ct_cong (fun j hj => h j (by omega)), h n (by omega)]
theorem sw_ct (x k : Nat) : ct (fun j => x.testBit j) (8 + k) = sw_p (x % 256) + ct (fun j => (x / 256).testBit j) k := by
  rw [ct_add]
  congr 1
  · unfold sw_p
    refine ct_cong (fun j hj => ?_)
    rw [show 256 = 2 ^ 8 by decide, Nat.testBit_mod_two_pow]
    simp [hj]
  · refine ct_cong (fun j hj => ?_)
    rw [show 256 = 2 ^ 8 by decide, Nat.testBit_div_two_pow, Nat.add_comm]
theorem sw_dv {r q n : Nat} (h : r < n) : (r + n * q) / n = q := by
  rw [Nat.add_mul_div_left _ _ (by omega), Nat.div_eq_of_lt h, Nat.zero_add]
theorem sw_l1 {p0 p1 p2 q1 q2 q3 z3 z4 : Nat} (h0 : p0 ≤ 8) (h1 : p1 ≤ 8) (h2 : p2 ≤ 8) (e0 : z3 = p0 + 256 * q1) (e1 : q1 = p1 + 256 * q2) (e2 : q2 = p2 + 256 * q3) (e4 : z4 = z3 + z3 / 256) :
    z4 = ((p0 + p1) + 256 * (p1 + p2)) + 65536 * (q2 + q3) := by
  have d : z3 / 256 = q1 := by rw [e0]; exact sw_dv (by omega)
  rw [d] at e4
  omega
theorem sw_l2 {r0 r1 r2 t2 t4 t6 z4 z5 : Nat} (h0 : r0 ≤ 4112) (h1 : r1 ≤ 4112) (h2 : r2 ≤ 4112) (e4 : z4 = r0 + 65536 * t2) (a2 : t2 = r1 + 65536 * t4) (a4 : t4 = r2 + 65536 * t6) (e5 : z5 = z4 + z4 / 65536) :
    z5 = ((r0 + r1) + 65536 * (r1 + r2)) + 4294967296 * (t4 + t6) := by
  have d : z4 / 65536 = t2 := by rw [e4]; exact sw_dv (by omega)
  rw [d] at e5
  omega
theorem sw_l3 {p0 p1 p2 p3 p4 p5 p6 p7 t4 t6 z5 z6 : Nat} (c4 : t4 = ((p4 + p5) + 256 * (p5 + p6)) + 65536 * t6) (c6 : t6 = (p6 + p7) + 256 * p7)
    (b5 : z5 = ((p0 + p1 + 256 * (p1 + p2)) + ((p2 + p3) + 256 * (p3 + p4)) + 65536 * (((p2 + p3) + 256 * (p3 + p4)) + ((p4 + p5) + 256 * (p5 + p6)))) + 4294967296 * (t4 + t6)) (e6 : z6 = z5 + (t4 + t6))
    (h : p0 + (p1 + (p2 + (p3 + (p4 + (p5 + (p6 + (p7 + 0))))))) < 128) : z6 % 128 = p0 + (p1 + (p2 + (p3 + (p4 + (p5 + (p6 + (p7 + 0))))))) := by
  have k : z6 = (p0 + (p1 + (p2 + (p3 + (p4 + (p5 + (p6 + (p7 + 0)))))))) + 128 * (2 * ((p1 + p2) + (p3 + p4) + 256 * (((p2 + p3) + 256 * (p3 + p4)) + ((p4 + p5) + 256 * (p5 + p6))) + 16777216 * (t4 + t6) + (p5 + p6) + 256 * t6 + p7)) := by omega
  rw [k, Nat.add_mul_mod_self_left, Nat.mod_eq_of_lt h]
theorem sw_lin (p0 p1 p2 p3 p4 p5 p6 p7 z3 z4 z5 z6 : Nat) (h0 : p0 ≤ 8) (h1 : p1 ≤ 8) (h2 : p2 ≤ 8) (h3 : p3 ≤ 8) (h4 : p4 ≤ 8) (h5 : p5 ≤ 8) (h6 : p6 ≤ 8) (h7 : p7 ≤ 8)
    (e3 : z3 = p0 + 256 * (p1 + 256 * (p2 + 256 * (p3 + 256 * (p4 + 256 * (p5 + 256 * (p6 + 256 * (p7 + 256 * 0)))))))) (e4 : z4 = z3 + z3 / 256) (e5 : z5 = z4 + z4 / 65536) (e6 : z6 = z5 + z5 / 4294967296) :
    z6 % 128 = p0 + (p1 + (p2 + (p3 + (p4 + (p5 + (p6 + (p7 + 0))))))) := by
  obtain ⟨q7, a7⟩ : ∃ q, q = p7 := ⟨_, rfl⟩
  rw [Nat.mul_zero, Nat.add_zero, ← a7] at e3
  generalize a6 : p6 + 256 * q7 = q6 at e3
  generalize a5 : p5 + 256 * q6 = q5 at e3
  generalize a4 : p4 + 256 * q5 = q4 at e3
  generalize a3 : p3 + 256 * q4 = q3 at e3
  generalize a2 : p2 + 256 * q3 = q2 at e3
  generalize a1 : p1 + 256 * q2 = q1 at e3
  have b4 := sw_l1 h0 h1 h2 e3 a1.symm a2.symm e4
  have c2 : q2 + q3 = ((p2 + p3) + 256 * (p3 + p4)) + 65536 * (q4 + q5) := by clear e3 e4 e5 e6 b4; omega
  have c4 : q4 + q5 = ((p4 + p5) + 256 * (p5 + p6)) + 65536 * (q6 + q7) := by clear e3 e4 e5 e6 b4 c2; omega
  have c6 : q6 + q7 = (p6 + p7) + 256 * p7 := by clear e3 e4 e5 e6 b4 c2 c4; omega
  have b5 := sw_l2 (by clear e3 e4 e5 e6 b4 c2 c4; omega) (by clear e3 e4 e5 e6 b4 c2 c4; omega) (by clear e3 e4 e5 e6 b4 c2 c4; omega) b4 c2 c4 e5
  have d : z5 / 4294967296 = (q4 + q5) + (q6 + q7) := by
    rw [b5]
    exact sw_dv (by clear e3 e4 e5 e6 b4 c2 c4 b5; omega)
  rw [d] at e6
  exact sw_l3 (p7 := p7) c4 c6 b5 e6 (by clear e3 e4 e5 e6 b4 c2 c4 b5 d; omega)
theorem zn_sh (z : Int64) (k d : Nat) (hd : 2 ^ k = d) (hk : ((nI k).toInt64.toUInt64 &&& Int64.toUInt64 63).toNat % 64 = k) : ((z.toUInt64 >>> ((nI k).toInt64.toUInt64 &&& Int64.toUInt64 63)).toInt64).toBitVec.toNat = z.toBitVec.toNat / d := by
  show ((z.toUInt64 >>> ((nI k).toInt64.toUInt64 &&& Int64.toUInt64 63))).toNat = _
  rw [UInt64.toNat_shiftRight, hk, Nat.shiftRight_eq_div_pow, hd]
  rfl
theorem zn_and (a b : Int64) : (a &&& b).toBitVec.toNat = a.toBitVec.toNat &&& b.toBitVec.toNat := by
  rw [Int64.toBitVec_and, BitVec.toNat_and]
theorem zn_add (a b : Int64) (h : a.toBitVec.toNat + b.toBitVec.toNat < 2 ^ 64) : (a + b).toBitVec.toNat = a.toBitVec.toNat + b.toBitVec.toNat := by
  rw [Int64.toBitVec_add, BitVec.toNat_add, Nat.mod_eq_of_lt h]
theorem zn_sub (a b : Int64) (h : b.toBitVec.toNat ≤ a.toBitVec.toNat) : (a - b).toBitVec.toNat = a.toBitVec.toNat - b.toBitVec.toNat := by
  rw [Int64.toBitVec_sub, BitVec.toNat_sub]
  have h1 := a.toBitVec.isLt
  have h2 := b.toBitVec.isLt
  omega
theorem sw_m5 : (6148914691236517205 : Int64).toBitVec.toNat = sM 85 8 := by decide +kernel
theorem sw_m3 : (3689348814741910323 : Int64).toBitVec.toNat = sM 51 8 := by decide +kernel
theorem sw_mf : (1085102592571150095 : Int64).toBitVec.toNat = sM 15 8 := by decide +kernel
theorem sw_v3 : sM 51 8 = 3689348814741910323 := by decide +kernel
theorem sw_vf : sM 15 8 = 1085102592571150095 := by decide +kernel
