/-! packing -/
theorem shl_n {a k : Nat} (hs : ((Int32.ofInt (k : Int) &&& 31).toBitVec.smod 32).toNat = k) (h : a * 2 ^ k < 2147483648) : zb_shl (a : Int) (k : Int) = ((a * 2 ^ k : Nat) : Int) := by
  unfold zb_shl
  rw [show Int32.ofInt (a : Int) = nI a from Int32.ofInt_eq_ofNat, pk_shlN _ k hs (by omega), nI_toInt (by omega)]
theorem sh_or {a b : Int} (k : Nat) (hs : ((Int32.ofInt (k : Int) &&& 31).toBitVec.smod 32).toNat = k) (hk : k ≤ 31) (ha : 0 ≤ a) (hb : 0 ≤ b ∧ b < 2 ^ k) (h : a * 2 ^ k + b < 2147483648) : zb_or (zb_shl a (k : Int)) b = a * 2 ^ k + b := by
  obtain ⟨a, rfl⟩ := Int.eq_ofNat_of_zero_le ha
  obtain ⟨b, rfl⟩ := Int.eq_ofNat_of_zero_le hb.1
  have h2 : a * 2 ^ k + b < 2147483648 := by
    have e : ((a * 2 ^ k + b : Nat) : Int) = (a : Int) * 2 ^ k + (b : Int) := by simp
    omega
  have h3 : b < 2 ^ k := by
    have e : ((2 ^ k : Nat) : Int) = (2 : Int) ^ k := by simp
    omega
  rw [shl_n hs (by omega), zb_or_n _ _ 31 (by decide) (by omega) (by omega)]
  rw [← Nat.shiftLeft_eq, ← Nat.shiftLeft_add_eq_or_of_lt h3, Nat.shiftLeft_eq]
  simp
theorem sh_or4 {a b : Int} (ha : 0 ≤ a ∧ a < 1024) (hb : 0 ≤ b ∧ b < 16) : zb_or (zb_shl a 4) b = a * 16 + b := sh_or 4 (by decide +kernel) (by decide) ha.1 hb (by omega)
theorem sh_or6 {a b : Int} (ha : 0 ≤ a ∧ a < 1024) (hb : 0 ≤ b ∧ b < 64) : zb_or (zb_shl a 6) b = a * 64 + b := sh_or 6 (by decide +kernel) (by decide) ha.1 hb (by omega)
theorem lsh_or {a b : Int} (ha : 0 ≤ a ∧ a < 35184372088832) (hb : 0 ≤ b ∧ b < 32768) : zl_or (zl_shl a 15) b = a * 32768 + b := by
  obtain ⟨a, rfl⟩ := Int.eq_ofNat_of_zero_le ha.1
  obtain ⟨b, rfl⟩ := Int.eq_ofNat_of_zero_le hb.1
  have hs : (((Int32.ofInt 15).toInt64 &&& 63).toBitVec.smod 64).toNat = 15 := by decide +kernel
  have e1 : Int64.ofInt (a : Int) <<< ((Int32.ofInt 15).toInt64 &&& 63) = Int64.ofInt ((a * 32768 : Nat) : Int) := by
    apply Int64.toBitVec_inj.mp
    apply BitVec.eq_of_toNat_eq
    show ((BitVec.ofInt 64 (a : Int)) <<< (((Int32.ofInt 15).toInt64 &&& 63).toBitVec.smod 64)).toNat = (BitVec.ofInt 64 ((a * 32768 : Nat) : Int)).toNat
    rw [BitVec.shiftLeft_eq', BitVec.toNat_shiftLeft, hs, BitVec.ofInt_natCast, BitVec.ofInt_natCast, BitVec.toNat_ofNat, BitVec.toNat_ofNat, Nat.shiftLeft_eq]
    omega
  have e2 : zl_shl (a : Int) 15 = ((a * 32768 : Nat) : Int) := by
    unfold zl_shl
    rw [e1, zx_eq, zx_id (by omega) (by omega)]
  rw [e2]
  unfold zl_or
  have e3 : Int64.ofInt ((a * 32768 : Nat) : Int) ||| Int64.ofInt (b : Int) = Int64.ofInt ((a * 32768 ||| b : Nat) : Int) := by
    generalize a * 32768 = m
    rw [Int64.ofInt_eq_ofNat, Int64.ofInt_eq_ofNat, Int64.ofInt_eq_ofNat]
    apply Int64.toBitVec.inj
    simp
  have e4 : a * 32768 ||| b = a * 32768 + b := by
    rw [show a * 32768 = a <<< 15 from (Nat.shiftLeft_eq a 15).symm, ← Nat.shiftLeft_add_eq_or_of_lt (i := 15) (by omega)]
  rw [e3, e4, zx_eq, zx_id (by omega) (by omega)]
  simp
theorem sh_w : ∀ w : Nat, w < 16 → ∀ t : Nat, t < 4 → zb_and (zb_shr (w : Int) (t : Int)) 1 = if bt (w : Int) (t : Int) = true then 1 else 0 := by decide +kernel
theorem sh_wi {w t : Int} (hw : 0 ≤ w ∧ w < 16) (ht : 0 ≤ t ∧ t < 4) : zb_and (zb_shr w t) 1 = if bt w t = true then 1 else 0 := by
  obtain ⟨w, rfl⟩ := Int.eq_ofNat_of_zero_le hw.1
  obtain ⟨t, rfl⟩ := Int.eq_ofNat_of_zero_le ht.1
  exact sh_w w (by omega) t (by omega)
def oneC (C : Cm) (t : Int) : Int := (((if bt (cw C) t = true then 1 else 0) * 16 + cp C t) * 16 + ch C t) * 64 + cn C t
theorem oneC_in {C : Cm} (h : CW C) (t : Int) : 0 ≤ oneC C t ∧ oneC C t < 32768 := by
  have h1 := h.2.2 t
  unfold oneC
  split <;> omega
def pkN (C : Cm) : Nat → Int → Int
  | 0, _ => 0
  | n + 1, t => pkN C n (t + 1) * 32768 + oneC C t
def pk (C : Cm) : Int := pkN C (ct C).toNat 0
theorem pkN_in {C : Cm} (h : CW C) : ∀ (n : Nat) (t : Int), 0 ≤ pkN C n t ∧ pkN C n t < 32768 ^ n
  | 0, t => ⟨Int.le_refl 0, show (0 : Int) < 32768 ^ 0 by decide⟩
  | n + 1, t => by
    have h1 := pkN_in h n (t + 1)
    have h2 := oneC_in h t
    have e : (32768 : Int) ^ (n + 1) = 32768 ^ n * 32768 := Int.pow_succ _ _
    unfold pkN
    rw [e]
    omega
theorem pk_in2 {C : Cm} (h : CW C) (n : Nat) (hn : n ≤ 4) (t : Int) : 0 ≤ pkN C n t ∧ pkN C n t < 1152921504606846976 := by
  have h1 := pkN_in h n t
  have h2 : (32768 : Int) ^ n ≤ 32768 ^ 4 := by
    rcases (by omega : n = 0 ∨ n = 1 ∨ n = 2 ∨ n = 3 ∨ n = 4) with rfl | rfl | rfl | rfl | rfl <;> decide
  have h3 : (32768 : Int) ^ 4 = 1152921504606846976 := by decide
  omega
theorem pk_in3 {C : Cm} (h : CW C) (n : Nat) (hn : n ≤ 3) (t : Int) : 0 ≤ pkN C n t ∧ pkN C n t < 35184372088832 := by
  have h1 := pkN_in h n t
  have h2 : (32768 : Int) ^ n ≤ 32768 ^ 3 := by
    rcases (by omega : n = 0 ∨ n = 1 ∨ n = 2 ∨ n = 3) with rfl | rfl | rfl | rfl <;> decide
  have h3 : (32768 : Int) ^ 3 = 35184372088832 := by decide
  omega
set_option maxRecDepth 100000 in
set_option maxHeartbeats 4000000 in
theorem lp_X1_packed {g : zt_G} {M : zm_M} {c : Nat} {q : Int → zm_M → Prop} (hc : zp_camp c) (hw : CW (cvX M c)) (h : q (pk (cvX M c)) M) : ∀ (nn : Nat) (a t : Int) (x4 : Option zv_A), (t + 1).toNat = nn → -1 ≤ t → t < M c 5 → a = pkN (cvX M c) (M c 5 - 1 - t).toNat (t + 1) → zc_Z g mX1_packed 9 [some (zv_r c), some (zv_l a), none, some (zv_i t), x4] [] M (zq_L q) := by
  intro nn
  induction nn using Nat.strongRecOn with
  | ind nn ih =>
    intro a t x4 hn h0 h1 ha
    have hw0 := wXt hw
    have hww := wXw hw
    refine zr_iload_n (pc := 9) dX1_packed_9 rfl rfl ?_
    refine zi_if_lt (pc := 10) (tgt := 78) dX1_packed_10 (by decide) (by omega) (fun h10 => ?_) (fun h10 => ?_)
    · refine zr_lload_n (pc := 78) dX1_packed_78 rfl rfl ?_
      exact zr_lreturn (pc := 79) dX1_packed_79 rfl (show q a M by rw [ha, show t = -1 by omega, show (M c 5 - 1 - (-1)).toNat = (M c 5).toNat by omega]; exact h)
    · have ht : 0 ≤ t ∧ t < M c 5 := ⟨h10, h1⟩
      have hw1 := wX hw ht
      have e1 := sh_wi hww ⟨h10, show t < 4 by omega⟩
      have hwb : (0 : Int) ≤ (if bt (M c 4) t = true then 1 else 0) ∧ (if bt (M c 4) t = true then (1 : Int) else 0) ≤ 1 := by split <;> omega
      have hp3 := pk_in3 hw (M c 5 - 1 - t).toNat (by omega) (t + 1)
      rw [← ha] at hp3
      have ho := oneC_in hw t
      refine zr_aload_n (pc := 13) dX1_packed_13 rfl rfl ?_
      refine zr_getI (pc := 14) (z := 4) fX1_24 hc.1 rfl rfl rfl dX1_packed_14 ?_
      refine zr_iload_n (pc := 17) dX1_packed_17 rfl rfl ?_
      refine zr_ishr (pc := 18) dX1_packed_18 ?_
      refine zr_iconst (pc := 19) dX1_packed_19 ?_
      refine zr_iand (pc := 20) dX1_packed_20 ?_
      rw [e1]
      refine zr_istore (pc := 21) dX1_packed_21 (Nat.le_of_ble_eq_true rfl) rfl ?_
      refine zr_iload (pc := 23) dX1_packed_23 rfl ?_
      refine zr_iconst (pc := 25) dX1_packed_25 ?_
      refine zr_ishl (pc := 26) dX1_packed_26 ?_
      refine zr_aload_n (pc := 27) dX1_packed_27 rfl rfl ?_
      refine zr_getR (pc := 28) fX1_9 hc.1 rfl rfl dX1_packed_28 ?_
      refine zr_iload_n (pc := 31) dX1_packed_31 rfl rfl ?_
      refine zr_iaload (pc := 32) hc.2.1 (by omega) dX1_packed_32 ?_
      refine zr_ior (pc := 33) dX1_packed_33 ?_
      rw [sh_or4 (by omega) (by omega)]
      refine zr_istore (pc := 34) dX1_packed_34 (Nat.le_of_ble_eq_true rfl) rfl ?_
      refine zr_iload (pc := 36) dX1_packed_36 rfl ?_
      refine zr_iconst (pc := 38) dX1_packed_38 ?_
      refine zr_ishl (pc := 39) dX1_packed_39 ?_
      refine zr_aload_n (pc := 40) dX1_packed_40 rfl rfl ?_
      refine zr_getR (pc := 41) fX1_21 hc.1 rfl rfl dX1_packed_41 ?_
      refine zr_iload_n (pc := 44) dX1_packed_44 rfl rfl ?_
      refine zr_iaload (pc := 45) hc.2.2.2.2 (by omega) dX1_packed_45 ?_
      refine zr_ior (pc := 46) dX1_packed_46 ?_
      rw [sh_or4 (by omega) (by omega)]
      refine zr_istore (pc := 47) dX1_packed_47 (Nat.le_of_ble_eq_true rfl) rfl ?_
      refine zr_iload (pc := 49) dX1_packed_49 rfl ?_
      refine zr_bipush (pc := 51) dX1_packed_51 (by decide) ?_
      refine zr_ishl (pc := 53) dX1_packed_53 ?_
      refine zr_aload_n (pc := 54) dX1_packed_54 rfl rfl ?_
      refine zr_getR (pc := 55) fX1_18 hc.1 rfl rfl dX1_packed_55 ?_
      refine zr_iload_n (pc := 58) dX1_packed_58 rfl rfl ?_
      refine zr_iaload (pc := 59) hc.2.2.2.1 (by omega) dX1_packed_59 ?_
      refine zr_ior (pc := 60) dX1_packed_60 ?_
      rw [sh_or6 (by omega) (by omega)]
      rw [show ((if bt (M c 4) t = true then (1 : Int) else 0) * 16 + M (c + 1) t) * 16 + M (c + 4) t = ((if bt (cw (cvX M c)) t = true then (1 : Int) else 0) * 16 + cp (cvX M c) t) * 16 + ch (cvX M c) t from by rw [vX_p ht, vX_h ht]; rfl, ← vX_n ht, show (((if bt (cw (cvX M c)) t = true then (1 : Int) else 0) * 16 + cp (cvX M c) t) * 16 + ch (cvX M c) t) * 64 + cn (cvX M c) t = oneC (cvX M c) t from rfl]
      refine zr_istore (pc := 61) dX1_packed_61 (Nat.le_of_ble_eq_true rfl) rfl ?_
      refine zr_lload_n (pc := 63) dX1_packed_63 rfl rfl ?_
      refine zr_bipush (pc := 64) dX1_packed_64 (by decide) ?_
      refine zr_lshl (pc := 66) dX1_packed_66 ?_
      refine zr_iload (pc := 67) dX1_packed_67 rfl ?_
      refine zr_i2l (pc := 69) dX1_packed_69 ?_
      rw [zw_id (by omega) (by omega)]
      refine zr_lor (pc := 70) dX1_packed_70 ?_
      rw [lsh_or hp3 ho]
      refine zr_lstore_n (pc := 71) dX1_packed_71 rfl (Nat.le_of_ble_eq_true rfl) rfl ?_
      refine zr_iinc (pc := 72) dX1_packed_72 rfl (Nat.le_of_ble_eq_true rfl) rfl ?_
      refine zr_goto (pc := 75) (tgt := 9) dX1_packed_75 (by decide) ?_
      exact ih _ (by omega) _ _ _ rfl (by omega) (by omega) (by rw [ha, show (M c 5 - 1 - (t + -1)).toNat = (M c 5 - 1 - t).toNat + 1 by omega, show t + -1 + 1 = t by omega]; rfl)

set_option maxRecDepth 100000 in
set_option maxHeartbeats 4000000 in
theorem ct_X1_packed {g : zt_G} {M : zm_M} {c : Nat} {q : Int → zm_M → Prop} (hc : zp_camp c) (hw : CW (cvX M c)) (h : q (pk (cvX M c)) M) : zc_K g yX1_packed mX1_packed [zv_r c] M (zq_L q) := by
  refine zc_of (ls := [some (zv_r c), none, none, none, none]) (by decide) rfl ⟨rfl, rfl⟩ (Nat.le_of_ble_eq_true rfl) rfl ?_
  have hw0 := wXt hw
  refine zr_lconst (pc := 0) (z := 0) dX1_packed_0 (by decide +kernel) ?_
  refine zr_lstore_n (pc := 1) dX1_packed_1 rfl (Nat.le_of_ble_eq_true rfl) rfl ?_
  refine zr_aload_n (pc := 2) dX1_packed_2 rfl rfl ?_
  refine zr_getI (pc := 3) (z := 5) fX1_28 hc.1 rfl rfl rfl dX1_packed_3 ?_
  refine zr_iconst (pc := 6) dX1_packed_6 ?_
  refine zr_isub (pc := 7) dX1_packed_7 ?_
  refine zr_istore_n (pc := 8) dX1_packed_8 rfl (Nat.le_of_ble_eq_true rfl) rfl ?_
  exact lp_X1_packed hc hw h _ _ _ _ rfl (by omega) (by omega) (by rw [show (M c 5 - 1 - (M c 5 - 1)).toNat = 0 by omega]; rfl)

/-! unpacking -/
theorem and_m (z : Int) (k : Nat) {m : Int32} (hk : k ≤ 31) (hm : m.toBitVec.toNat = 2 ^ k - 1) : (Int32.ofInt z &&& m).toInt = z % 2 ^ k := by
  have h0 : (2 : Nat) ^ k ∣ 2 ^ 32 := Nat.pow_dvd_pow 2 (by omega)
  have h2 : (0 : Nat) < 2 ^ k := Nat.two_pow_pos k
  have h3 : 2 ^ k ≤ 2 ^ 31 := Nat.pow_le_pow_right (by decide) hk
  have e1 : (Int32.ofInt z).toBitVec.toNat = (z % (2 ^ 32 : Nat)).toNat := by
    show (BitVec.ofInt 32 z).toNat = _
    rw [BitVec.toNat_ofInt]
  have e2 : ((z % (2 ^ 32 : Nat)).toNat : Int) = z % (2 ^ 32 : Nat) := Int.toNat_of_nonneg (Int.emod_nonneg _ (by decide))
  have e3 : (((z % (2 ^ 32 : Nat)).toNat % 2 ^ k : Nat) : Int) = z % 2 ^ k := by
    rw [Int.natCast_emod, e2, Int.emod_emod_of_dvd _ (Int.natCast_dvd_natCast.mpr h0)]
    simp
  rw [pk_and _ k hm, nI_toInt (by have := Nat.mod_lt ((Int32.ofInt z).toBitVec.toNat) h2; omega), e1, e3]
theorem and63 (z : Int) : zb_and z 63 = z % 64 := and_m z 6 (by decide) (by decide)
theorem and15 (z : Int) : zb_and z 15 = z % 16 := and_m z 4 (by decide) (by decide)
theorem and1 (z : Int) : zb_and z 1 = z % 2 := and_m z 1 (by decide) (by decide)
theorem shr_k (z : Int) (k : Nat) (s : Int) (hs : ((Int32.ofInt s &&& 31).toBitVec.smod 32).toNat = k) : zb_shr z s = zw z / 2 ^ k := by
  unfold zb_shr
  rw [pk_shr _ _ k hs, zw_eq, Int.shiftRight_eq_div_pow]
  simp
theorem shr6 (z : Int) : zb_shr z 6 = zw z / 64 := shr_k z 6 6 (by decide +kernel)
theorem shr10 (z : Int) : zb_shr z 10 = zw z / 1024 := shr_k z 10 10 (by decide +kernel)
theorem shr14 (z : Int) : zb_shr z 14 = zw z / 16384 := shr_k z 14 14 (by decide +kernel)
theorem lshr_k (z s : Int) (k : Nat) (hs : (((Int32.ofInt s).toInt64 &&& 63).toBitVec.smod 64).toNat = k) : zl_shr z s = zx z / 2 ^ k := by
  unfold zl_shr
  show ((Int64.ofInt z).toBitVec.sshiftRight (((Int32.ofInt s).toInt64 &&& 63).toBitVec.smod 64).toNat).toInt = _
  rw [hs, BitVec.toInt_sshiftRight]
  show (Int64.ofInt z).toInt >>> k = _
  rw [zx_eq, Int.shiftRight_eq_div_pow]
  simp
def dg (a t : Int) : Int := a / 32768 ^ t.toNat
theorem lshr_t {a t : Int} (ha : 0 ≤ a ∧ a < 1152921504606846976) (ht : 0 ≤ t ∧ t < 4) : zl_shr a (15 * t) = dg a t := by
  have e : zx a = a := zx_id (by omega) (by omega)
  unfold dg
  rcases (by omega : t = 0 ∨ t = 1 ∨ t = 2 ∨ t = 3) with rfl | rfl | rfl | rfl
  · rw [lshr_k a (15 * 0) 0 (by decide +kernel), e]
    rfl
  · rw [lshr_k a (15 * 1) 15 (by decide +kernel), e]
    rfl
  · rw [lshr_k a (15 * 2) 30 (by decide +kernel), e]
    rfl
  · rw [lshr_k a (15 * 3) 45 (by decide +kernel), e]
    rfl
def unp (a : Int) (C : Cm) : Cm := (msk (ct C) (fun t => dg a t / 1024 % 16), ck C, msk (ct C) (fun t => dg a t % 64), msk (ct C) (fun t => dg a t / 64 % 16), fo (fun t w => zb_or w (zb_shl (dg a t / 16384 % 2) t)) 0 (ct C).toNat, ct C, cg C)
theorem unp_of {M M2 : zm_M} {c : Nat} {a : Int} (h2 : ∀ i, M2 (c + 2) i = M (c + 2) i) (h4 : M2 c 4 = fo (fun t w => zb_or w (zb_shl (dg a t / 16384 % 2) t)) 0 (M c 5).toNat) (h5 : M2 c 5 = M c 5) (h6 : M2 c 6 = M c 6) (hv : ∀ i, 0 ≤ i → i < M c 5 → M2 (c + 1) i = dg a i / 1024 % 16 ∧ M2 (c + 3) i = dg a i % 64 ∧ M2 (c + 4) i = dg a i / 64 % 16) : cvX M2 c = unp a (cvX M c) := by
  have e : ∀ (k : Nat) (f : Int → Int), (∀ i, 0 ≤ i → i < M c 5 → M2 k i = f i) → msk (M c 5) (M2 k) = msk (M c 5) f := by
    intro k f hf
    funext i
    unfold msk
    split
    · rename_i hx
      exact hf i hx.1 hx.2
    · rfl
  unfold cvX unp
  rw [h4, h5, h6, e (c + 1) _ (fun i x y => (hv i x y).1), e (c + 2) (M (c + 2)) (fun i _ _ => h2 i), e (c + 3) _ (fun i x y => (hv i x y).2.1), e (c + 4) _ (fun i x y => (hv i x y).2.2)]
set_option maxRecDepth 100000 in
set_option maxHeartbeats 4000000 in
theorem lp_X1_unpack {g : zt_G} {M : zm_M} {c : Nat} {q : zm_M → Prop} (hc : zp_camp c) (hT : 0 ≤ M c 5 ∧ M c 5 ≤ 4) {a : Int} (ha : 0 ≤ a ∧ a < 1152921504606846976) (h : ∀ M2, frC c M M2 → cvX M2 c = unp a (cvX M c) → q M2) : ∀ (nn : Nat) (t : Int) (x4 : Option zv_A) (Mx : zm_M), (M c 5 - t).toNat = nn → 0 ≤ t → t ≤ M c 5 → frC c M Mx → (∀ i, Mx (c + 2) i = M (c + 2) i) → Mx c 4 = fo (fun t w => zb_or w (zb_shl (dg a t / 16384 % 2) t)) 0 t.toNat → Mx c 5 = M c 5 → Mx c 6 = M c 6 → (∀ i, 0 ≤ i → i < t → Mx (c + 1) i = dg a i / 1024 % 16 ∧ Mx (c + 3) i = dg a i % 64 ∧ Mx (c + 4) i = dg a i / 64 % 16) → zc_Z g mX1_unpack 7 [some (zv_r c), some (zv_l a), none, some (zv_i t), x4] [] Mx (zq_V q) := by
  intro nn
  induction nn using Nat.strongRecOn with
  | ind nn ih =>
    intro t x4 Mx hn h0 h1 hfr hk2 hk4 hk5 hk6 hv
    refine zr_iload_n (pc := 7) dX1_unpack_7 rfl rfl ?_
    refine zr_aload_n (pc := 8) dX1_unpack_8 rfl rfl ?_
    refine zr_getI (pc := 9) (z := 5) fX1_28 hc.1 rfl rfl rfl dX1_unpack_9 ?_
    refine zi_icmp_ge (pc := 12) (tgt := 87) dX1_unpack_12 (by decide) (by omega) (by omega) (fun h12 => ?_) (fun h12 => ?_)
    · exact zr_return (pc := 87) dX1_unpack_87 rfl (h _ hfr (unp_of hk2 (by rw [hk4, show t = M c 5 by omega]) hk5 hk6 (fun i g0 g1 => hv i g0 (by omega))))
    · refine zr_lload_n (pc := 15) dX1_unpack_15 rfl rfl ?_
      refine zr_bipush (pc := 16) dX1_unpack_16 (by decide) ?_
      refine zr_iload_n (pc := 18) dX1_unpack_18 rfl rfl ?_
      refine zr_imul (pc := 19) dX1_unpack_19 ?_
      refine zr_lshr (pc := 20) dX1_unpack_20 ?_
      refine zr_l2i (pc := 21) dX1_unpack_21 ?_
      rw [lshr_t ha ⟨h0, by omega⟩]
      refine zr_istore (pc := 22) dX1_unpack_22 (Nat.le_of_ble_eq_true rfl) rfl ?_
      refine zr_aload_n (pc := 24) dX1_unpack_24 rfl rfl ?_
      refine zr_getR (pc := 25) fX1_18 hc.1 rfl rfl dX1_unpack_25 ?_
      refine zr_iload_n (pc := 28) dX1_unpack_28 rfl rfl ?_
      refine zr_iload (pc := 29) dX1_unpack_29 rfl ?_
      refine zr_bipush (pc := 31) dX1_unpack_31 (by decide) ?_
      refine zr_iand (pc := 33) dX1_unpack_33 ?_
      rw [and63]
      refine zr_iastore (pc := 34) hc.2.2.2.1 (by omega) dX1_unpack_34 ?_
      refine zr_aload_n (pc := 35) dX1_unpack_35 rfl rfl ?_
      refine zr_getR (pc := 36) fX1_21 hc.1 rfl rfl dX1_unpack_36 ?_
      refine zr_iload_n (pc := 39) dX1_unpack_39 rfl rfl ?_
      refine zr_iload (pc := 40) dX1_unpack_40 rfl ?_
      refine zr_bipush (pc := 42) dX1_unpack_42 (by decide) ?_
      refine zr_ishr (pc := 44) dX1_unpack_44 ?_
      refine zr_bipush (pc := 45) dX1_unpack_45 (by decide) ?_
      refine zr_iand (pc := 47) dX1_unpack_47 ?_
      rw [shr6, and15]
      refine zr_iastore (pc := 48) hc.2.2.2.2 (by omega) dX1_unpack_48 ?_
      refine zr_aload_n (pc := 49) dX1_unpack_49 rfl rfl ?_
      refine zr_getR (pc := 50) fX1_9 hc.1 rfl rfl dX1_unpack_50 ?_
      refine zr_iload_n (pc := 53) dX1_unpack_53 rfl rfl ?_
      refine zr_iload (pc := 54) dX1_unpack_54 rfl ?_
      refine zr_bipush (pc := 56) dX1_unpack_56 (by decide) ?_
      refine zr_ishr (pc := 58) dX1_unpack_58 ?_
      refine zr_bipush (pc := 59) dX1_unpack_59 (by decide) ?_
      refine zr_iand (pc := 61) dX1_unpack_61 ?_
      rw [shr10, and15]
      refine zr_iastore (pc := 62) hc.2.1 (by omega) dX1_unpack_62 ?_
      refine zr_aload_n (pc := 63) dX1_unpack_63 rfl rfl ?_
      refine zr_dup_r (pc := 64) dX1_unpack_64 ?_
      refine zr_getI (pc := 65) (z := 4) fX1_24 hc.1 rfl rfl rfl dX1_unpack_65 ?_
      refine zr_iload (pc := 68) dX1_unpack_68 rfl ?_
      refine zr_bipush (pc := 70) dX1_unpack_70 (by decide) ?_
      refine zr_ishr (pc := 72) dX1_unpack_72 ?_
      refine zr_iconst (pc := 73) dX1_unpack_73 ?_
      refine zr_iand (pc := 74) dX1_unpack_74 ?_
      refine zr_iload_n (pc := 75) dX1_unpack_75 rfl rfl ?_
      rw [shr14, and1]
      have dgz : zw (dg a t) / 16384 % 2 = dg a t / 16384 % 2 ∧ zw (dg a t) / 1024 % 16 = dg a t / 1024 % 16 ∧ zw (dg a t) / 64 % 16 = dg a t / 64 % 16 := by unfold zw; omega
      refine zr_ishl (pc := 76) dX1_unpack_76 ?_
      refine zr_ior (pc := 77) dX1_unpack_77 ?_
      refine zr_putI (pc := 78) (z := 4) fX1_24 hc.1 rfl fwX1_4 rfl rfl dX1_unpack_78 ?_
      refine zr_iinc (pc := 81) dX1_unpack_81 rfl (Nat.le_of_ble_eq_true rfl) rfl ?_
      refine zr_goto (pc := 84) (tgt := 7) dX1_unpack_84 (by decide) ?_
      refine ih _ (by omega) _ _ _ rfl (by omega) (by omega) ((((hfr.put (c + 3) t _ (by omega)).put (c + 4) t _ (by omega)).put (c + 1) t _ (by omega)).put c 4 _ (by omega)) (fun i => ?_) ?_ ?_ ?_ (fun i g0 g1 => ?_)
      · rw [put_nk _ _ _ _ (show c + 2 ≠ c by omega), put_nk _ _ _ _ (show c + 2 ≠ c + 1 by omega), put_nk _ _ _ _ (show c + 2 ≠ c + 4 by omega), put_nk _ _ _ _ (show c + 2 ≠ c + 3 by omega), hk2]
      · rw [put_at, put_nk _ _ _ _ (show c ≠ c + 1 by omega), put_nk _ _ _ _ (show c ≠ c + 4 by omega), put_nk _ _ _ _ (show c ≠ c + 3 by omega), hk4, fo_s h0, dgz.1]
      · rw [put_ni _ _ (show (5 : Int) ≠ 4 by decide), put_nk _ _ _ _ (show c ≠ c + 1 by omega), put_nk _ _ _ _ (show c ≠ c + 4 by omega), put_nk _ _ _ _ (show c ≠ c + 3 by omega), hk5]
      · rw [put_ni _ _ (show (6 : Int) ≠ 4 by decide), put_nk _ _ _ _ (show c ≠ c + 1 by omega), put_nk _ _ _ _ (show c ≠ c + 4 by omega), put_nk _ _ _ _ (show c ≠ c + 3 by omega), hk6]
      · rw [put_nk _ _ _ _ (show c + 1 ≠ c by omega), put_nk _ _ _ _ (show c + 3 ≠ c by omega), put_nk _ _ _ _ (show c + 4 ≠ c by omega), put_nk _ _ _ _ (show c + 3 ≠ c + 1 by omega), put_nk _ _ _ _ (show c + 3 ≠ c + 4 by omega), put_nk _ _ _ _ (show c + 4 ≠ c + 1 by omega)]
        by_cases hi : i = t
        · subst hi
          rw [put_at, put_at, put_at, dgz.2.1, dgz.2.2]
          exact ⟨rfl, rfl, rfl⟩
        · rw [put_ni _ _ hi, put_ni _ _ hi, put_ni _ _ hi, put_ni _ _ hi, put_ni _ _ hi, put_ni _ _ hi]
          exact hv i g0 (by omega)

set_option maxRecDepth 100000 in
set_option maxHeartbeats 4000000 in
theorem ct_X1_unpack {g : zt_G} {M : zm_M} {c : Nat} {q : zm_M → Prop} (hc : zp_camp c) (hT : 0 ≤ M c 5 ∧ M c 5 ≤ 4) {a : Int} (ha : 0 ≤ a ∧ a < 1152921504606846976) (h : ∀ M2, frC c M M2 → cvX M2 c = unp a (cvX M c) → q M2) : zc_K g yX1_unpack mX1_unpack [zv_r c, zv_l a] M (zq_V q) := by
  refine zc_of (ls := [some (zv_r c), some (zv_l a), none, none, none]) (by decide) rfl ⟨rfl, rfl⟩ (Nat.le_of_ble_eq_true rfl) rfl ?_
  refine zr_aload_n (pc := 0) dX1_unpack_0 rfl rfl ?_
  refine zr_iconst (pc := 1) dX1_unpack_1 ?_
  refine zr_putI (pc := 2) (z := 4) fX1_24 hc.1 rfl fwX1_4 rfl rfl dX1_unpack_2 ?_
  refine zr_iconst (pc := 5) dX1_unpack_5 ?_
  refine zr_istore_n (pc := 6) dX1_unpack_6 rfl (Nat.le_of_ble_eq_true rfl) rfl ?_
  exact lp_X1_unpack hc hT ha h _ _ _ _ rfl (by omega) (by omega) (frC.rf.put c 4 0 (by omega)) (fun i => put_nk _ _ _ _ (by omega)) (put_at _ _ _ _) (put_ni _ _ (by decide)) (put_ni _ _ (by decide)) (fun i g0 g1 => by omega)

/-- what is packed comes back -/
theorem dg_pk {C : Cm} (h : CW C) : ∀ (t n : Nat) (s : Int), t ≤ n → pkN C n s / 32768 ^ t = pkN C (n - t) (s + t)
  | 0, n, s, _ => by simp
  | t + 1, 0, s, ht => by omega
  | t + 1, n + 1, s, ht => by
    have h1 := dg_pk h t n (s + 1) (by omega)
    have h2 := oneC_in h s
    have e1 : (32768 : Int) ^ (t + 1) = 32768 * 32768 ^ t := by rw [Int.pow_succ, Int.mul_comm]
    have e2 : pkN C (n + 1) s / 32768 = pkN C n (s + 1) := by
      show (pkN C n (s + 1) * 32768 + oneC C s) / 32768 = _
      omega
    rw [e1, ← Int.ediv_ediv_of_nonneg (by decide), e2, h1, show n + 1 - (t + 1) = n - t by omega]
    congr 1
    push_cast
    omega
def CZ (C : Cm) : Prop := ∀ t, ¬ (0 ≤ t ∧ t < ct C) → cp C t = 0 ∧ ck C t = 0 ∧ cn C t = 0 ∧ ch C t = 0
theorem CZ_vX (M : zm_M) (c : Nat) : CZ (cvX M c) := fun t ht => ⟨if_neg ht, if_neg ht, if_neg ht, if_neg ht⟩
theorem wal : ∀ n : Nat, n ≤ 4 → ∀ w : Nat, w < 2 ^ n → fo (fun t v => zb_or v (zb_shl (if bt (w : Int) t = true then 1 else 0) t)) 0 n = (w : Int) := by decide +kernel
theorem unp_pk {C D : Cm} (hC : ct C = ct D) (h : CW D) (hz : CZ D) : unp (pk D) C = (cp D, ck C, cn D, ch D, cw D, ct C, cg C) := by
  have h0 := h.1
  have key : ∀ t, 0 ≤ t → t < ct D → dg (pk D) t / 1024 % 16 = cp D t ∧ dg (pk D) t % 64 = cn D t ∧ dg (pk D) t / 64 % 16 = ch D t ∧ dg (pk D) t / 16384 % 2 = (if bt (cw D) t = true then 1 else 0) := by
    intro t g0 g1
    have e1 : dg (pk D) t = pkN D ((ct D).toNat - t.toNat) t := by
      unfold dg pk
      rw [dg_pk h t.toNat (ct D).toNat 0 (by omega)]
      congr 1
      omega
    obtain ⟨m, hm⟩ : ∃ m, (ct D).toNat - t.toNat = m + 1 := ⟨(ct D).toNat - t.toNat - 1, by omega⟩
    have e2 : dg (pk D) t = pkN D m (t + 1) * 32768 + oneC D t := by rw [e1, hm]; rfl
    have h1 := h.2.2 t
    rw [e2]
    unfold oneC
    split <;> omega
  have em : ∀ (f f2 : Int → Int), (∀ t, 0 ≤ t → t < ct D → f t = f2 t) → (∀ t, ¬ (0 ≤ t ∧ t < ct D) → f2 t = 0) → msk (ct D) f = f2 := by
    intro f f2 ha hb
    funext t
    unfold msk
    split
    · rename_i hx
      exact ha t hx.1 hx.2
    · rename_i hx
      exact (hb t hx).symm
  unfold unp
  rw [hC, em _ (cp D) (fun t a b => (key t a b).1) (fun t a => (hz t a).1), em _ (cn D) (fun t a b => (key t a b).2.1) (fun t a => (hz t a).2.2.1), em _ (ch D) (fun t a b => (key t a b).2.2.1) (fun t a => (hz t a).2.2.2)]
  have ew : fo (fun t w => zb_or w (zb_shl (dg (pk D) t / 16384 % 2) t)) 0 (ct D).toNat = cw D := by
    rw [fo_c (f2 := fun t w => zb_or w (zb_shl (if bt (cw D) t = true then 1 else 0) t)) (fun i b g0 g1 => by rw [(key i g0 (by omega)).2.2.2])]
    obtain ⟨w, hw⟩ := Int.eq_ofNat_of_zero_le h.2.1.1
    have h3 := h.2.1.2
    rw [pw_n] at h3
    rw [hw] at h3 ⊢
    exact wal (ct D).toNat (by omega) w (by omega)
  rw [ew]
theorem pk_rng {C : Cm} (h : CW C) : 0 ≤ pk C ∧ pk C < 1152921504606846976 := pk_in2 h _ (by have := h.1; omega) 0
theorem pk_inj {C D : Cm} (hC : CW C) (hD : CW D) (zC : CZ C) (zD : CZ D) (ht : ct C = ct D) (hp : pk C = pk D) : cp C = cp D ∧ cn C = cn D ∧ ch C = ch D ∧ cw C = cw D := by
  have e1 := unp_pk (C := C) (D := C) rfl hC zC
  have e2 := unp_pk (C := C) (D := D) ht hD zD
  rw [hp, e2] at e1
  exact ⟨(congrArg cp e1).symm, (congrArg cn e1).symm, (congrArg ch e1).symm, (congrArg cw e1).symm⟩
