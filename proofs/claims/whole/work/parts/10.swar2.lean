theorem swar {z0 z1 z2 z3 z4 z5 z6 : Int64} (e1 : z0 - ((z0.toUInt64 >>> ((nI 1).toInt64.toUInt64 &&& Int64.toUInt64 63)).toInt64 &&& (6148914691236517205)) = z1) (e2 : (z1 &&& (3689348814741910323)) + ((z1.toUInt64 >>> ((nI 2).toInt64.toUInt64 &&& Int64.toUInt64 63)).toInt64 &&& (3689348814741910323)) = z2) (e3 : (z2 + (z2.toUInt64 >>> ((nI 4).toInt64.toUInt64 &&& Int64.toUInt64 63)).toInt64) &&& (1085102592571150095) = z3) (e4 : z3 + (z3.toUInt64 >>> ((nI 8).toInt64.toUInt64 &&& Int64.toUInt64 63)).toInt64 = z4) (e5 : z4 + (z4.toUInt64 >>> ((nI 16).toInt64.toUInt64 &&& Int64.toUInt64 63)).toInt64 = z5) (e6 : z5 + (z5.toUInt64 >>> ((nI 32).toInt64.toUInt64 &&& Int64.toUInt64 63)).toInt64 = z6) : z6.toInt32 &&& nI 127 = nI (pc64 z0) := by
  have x0 := z0.toBitVec.isLt
  have s1 := zn_sh z0 1 2 (by decide) (by decide +kernel)
  have s2 := zn_sh z1 2 4 (by decide) (by decide +kernel)
  have s3 := zn_sh z2 4 16 (by decide) (by decide +kernel)
  have s4 := zn_sh z3 8 256 (by decide) (by decide +kernel)
  have s5 := zn_sh z4 16 65536 (by decide) (by decide +kernel)
  have s6 := zn_sh z5 32 4294967296 (by decide) (by decide +kernel)
  have n1 : z1.toBitVec.toNat = sw_1 8 z0.toBitVec.toNat := by
    rw [← e1, zn_sub _ _ (by rw [zn_and, s1]; exact Nat.le_trans Nat.and_le_left (Nat.div_le_self _ _)), zn_and, s1, sw_m5]
    rfl
  have n2 : z2.toBitVec.toNat = sw_2 8 z1.toBitVec.toNat := by
    have q1 : z1.toBitVec.toNat &&& sM 51 8 ≤ sM 51 8 := Nat.and_le_right
    have q2 : z1.toBitVec.toNat / 4 &&& sM 51 8 ≤ sM 51 8 := Nat.and_le_right
    have q3 := sw_v3
    rw [← e2, zn_add _ _ (by rw [zn_and, zn_and, s2, sw_m3]; omega), zn_and, zn_and, s2, sw_m3]
    rfl
  have b2 : z2.toBitVec.toNat ≤ 2 * 3689348814741910323 := by
    have q1 : z1.toBitVec.toNat &&& sM 51 8 ≤ sM 51 8 := Nat.and_le_right
    have q2 : z1.toBitVec.toNat / 4 &&& sM 51 8 ≤ sM 51 8 := Nat.and_le_right
    have q3 := sw_v3
    rw [n2]
    unfold sw_2
    omega
  have n3 : z3.toBitVec.toNat = sw_3 8 z2.toBitVec.toNat := by
    rw [← e3, zn_and, zn_add _ _ (by rw [s3]; omega), s3, sw_mf]
    rfl
  have b3 : z3.toBitVec.toNat ≤ 1085102592571150095 := by
    have q1 : z2.toBitVec.toNat + z2.toBitVec.toNat / 16 &&& sM 15 8 ≤ sM 15 8 := Nat.and_le_right
    have q3 := sw_vf
    rw [n3]
    unfold sw_3
    omega
  have n4 : z4.toBitVec.toNat = z3.toBitVec.toNat + z3.toBitVec.toNat / 256 := by
    rw [← e4, zn_add _ _ (by rw [s4]; omega), s4]
  have n5 : z5.toBitVec.toNat = z4.toBitVec.toNat + z4.toBitVec.toNat / 65536 := by
    rw [← e5, zn_add _ _ (by rw [s5]; omega), s5]
  have n6 : z6.toBitVec.toNat = z5.toBitVec.toNat + z5.toBitVec.toNat / 4294967296 := by
    rw [← e6, zn_add _ _ (by rw [s6]; omega), s6]
  rw [n1] at n2
  rw [n2] at n3
  rw [sw_g, sw_g, sw_g, sw_g, sw_g, sw_g, sw_g, sw_g] at n3
  have hz : ∀ y, sw_3 0 y = 0 := fun y => by simp [sw_3, sM]
  rw [hz] at n3
  have hp : ∀ y, sw_p (y % 256) ≤ 8 := fun y => (sw_b (y % 256) (Nat.mod_lt _ (by decide))).2.2.2.2.2
  have hl := sw_lin _ _ _ _ _ _ _ _ _ _ _ _ (hp _) (hp _) (hp _) (hp _) (hp _) (hp _) (hp _) (hp _) n3 n4 n5 n6
  have hc : pc64 z0 = z6.toBitVec.toNat % 128 := by
    rw [hl]
    have t1 : pc64 z0 = ct (fun j => z0.toBitVec.toNat.testBit j) 64 := rfl
    have t0 : pc64 z0 = ct (fun j => z0.toBitVec.toNat.testBit j) (8 + (8 + (8 + (8 + (8 + (8 + (8 + (8 + 0)))))))) := t1
    rw [t0, sw_ct, sw_ct, sw_ct, sw_ct, sw_ct, sw_ct, sw_ct, sw_ct]
    rfl
  rw [pk_and _ 7 (by decide +kernel), hc, Int64.toBitVec_toInt32, BitVec.signExtend_eq_setWidth_of_le _ (by decide), BitVec.toNat_setWidth]
  congr 1
  omega
