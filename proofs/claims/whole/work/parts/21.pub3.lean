/-! fractions -/
def gcL : Nat → Int → Int → Int
  | 0, a, _ => a
  | n + 1, a, b => if b = 0 then a else gcL n b (a % b)
def gcI (a b : Int) : Int := (Nat.gcd a.toNat b.toNat : Int)
theorem gcI_0 {a : Int} (h : 0 ≤ a) : gcI a 0 = a := by
  unfold gcI
  rw [show (0 : Int).toNat = 0 from rfl, Nat.gcd_zero_right]
  omega
theorem gcI_s {a b : Int} (ha : 0 ≤ a) (hb : 0 < b) : gcI a b = gcI b (a % b) := by
  unfold gcI
  obtain ⟨a, rfl⟩ := Int.eq_ofNat_of_zero_le ha
  obtain ⟨b, rfl⟩ := Int.eq_ofNat_of_zero_le (Int.le_of_lt hb)
  rw [← Int.natCast_emod]
  simp only [Int.toNat_natCast]
  rw [Nat.gcd_comm a b, Nat.gcd_rec b a, Nat.gcd_comm]
theorem gcL_ok : ∀ (k n : Nat) (a b : Int), 0 ≤ a → 0 ≤ b → b < 2 ^ k → 2 * k + 1 ≤ n → gcL n a b = gcI a b
  | 0, n, a, b, ha, hb, hk, hn => by
    obtain ⟨m, rfl⟩ : ∃ m, n = m + 1 := ⟨n - 1, by omega⟩
    have hb0 : b = 0 := by
      have : (2 : Int) ^ 0 = 1 := rfl
      omega
    subst hb0
    unfold gcL
    rw [if_pos rfl, gcI_0 ha]
  | k + 1, n, a, b, ha, hb, hk, hn => by
    obtain ⟨m, rfl⟩ : ∃ m, n = m + 1 + 1 := ⟨n - 2, by omega⟩
    unfold gcL
    by_cases hb0 : b = 0
    · subst hb0
      rw [if_pos rfl, gcI_0 ha]
    · rw [if_neg hb0, gcI_s ha (by omega)]
      have h1 := Int.emod_nonneg a hb0
      have h2 := Int.emod_lt_of_pos a (show 0 < b by omega)
      unfold gcL
      by_cases hr : a % b = 0
      · rw [if_pos hr, hr, gcI_0 hb]
      · rw [if_neg hr, gcI_s hb (by omega)]
        have h3 := Int.emod_nonneg b hr
        have h4 := Int.emod_lt_of_pos b (show 0 < a % b by omega)
        have h5 : 2 * (b % (a % b)) < b := by
          have h6 := Int.emod_add_mul_ediv b (a % b)
          have h7 : 1 ≤ b / (a % b) := by
            have := Int.ediv_le_ediv (show 0 < a % b by omega) (show a % b ≤ b by omega)
            rw [Int.ediv_self hr] at this
            exact this
          have h8 : a % b ≤ a % b * (b / (a % b)) := by
            have := Int.mul_le_mul_of_nonneg_left h7 h1
            rw [Int.mul_one] at this
            exact this
          omega
        have e : (2 : Int) ^ (k + 1) = 2 ^ k * 2 := Int.pow_succ _ _
        exact gcL_ok k m (a % b) (b % (a % b)) h1 h3 (by omega) (by omega)
theorem gcI_in {a b : Int} (ha : 0 ≤ a) (hb : 0 < b) : 1 ≤ gcI a b ∧ gcI a b ≤ b := by
  unfold gcI
  have h1 : 0 < Nat.gcd a.toNat b.toNat := Nat.gcd_pos_of_pos_right _ (by omega)
  have h2 : Nat.gcd a.toNat b.toNat ≤ b.toNat := Nat.gcd_le_right _ (by omega)
  omega
def frc (u a b : Int) : Int := if u = 0 then b / gcI a b else a / gcI a b
theorem gcL_s (n : Nat) (a b : Int) : gcL (n + 1) a b = if b = 0 then a else gcL n b (a % b) := rfl
set_option maxRecDepth 100000 in
set_option maxHeartbeats 4000000 in
theorem lp_X10_commonDivisor {g : zt_G} {M : zm_M} {q : Int → zm_M → Prop} {a b : Int} (ha : 0 ≤ a ∧ a < 2147483648) (hb : 0 < b ∧ b < 1073741824) (h : q (gcI a b) M) : ∀ (nn : Nat) (x y k : Int) (x5 : Option zv_A), (64 - k).toNat = nn → 0 ≤ k → k ≤ 64 → (0 ≤ x ∧ x < 2147483648) → (0 ≤ y ∧ y < 1073741824) → gcL (64 - k).toNat x y = gcI a b → zc_Z g mX10_commonDivisor 7 [some (zv_i a), some (zv_i b), some (zv_i x), some (zv_i y), some (zv_i k), x5] [] M (zq_I q) := by
  intro nn
  induction nn using Nat.strongRecOn with
  | ind nn ih =>
    intro x y k x5 hn h0 h1 hx hy hG
    refine zr_iload (pc := 7) dX10_commonDivisor_7 rfl ?_
    refine zr_bipush (pc := 9) dX10_commonDivisor_9 (by decide) ?_
    refine zi_icmp_ge (pc := 11) (tgt := 34) dX10_commonDivisor_11 (by decide) (by omega) (by omega) (fun h11 => ?_) (fun h11 => ?_)
    · refine zr_iload_n (pc := 34) dX10_commonDivisor_34 rfl rfl ?_
      exact zr_ireturn (pc := 35) dX10_commonDivisor_35 rfl (zq_eq h (by rw [← hG, show (64 - k).toNat = 0 by omega]; rfl))
    · rw [show (64 - k).toNat = (64 - (k + 1)).toNat + 1 by omega, gcL_s] at hG
      refine zr_iload_n (pc := 14) dX10_commonDivisor_14 rfl rfl ?_
      refine zi_if_eq (pc := 15) (tgt := 34) dX10_commonDivisor_15 (by decide) (by omega) (fun h15 => ?_) (fun h15 => ?_)
      · refine zr_iload_n (pc := 34) dX10_commonDivisor_34 rfl rfl ?_
        exact zr_ireturn (pc := 35) dX10_commonDivisor_35 rfl (zq_eq h (by rw [← hG, if_pos h15]))
      · rw [if_neg h15] at hG
        have hm1 := Int.emod_nonneg x h15
        have hm2 := Int.emod_lt_of_pos x (show 0 < y by omega)
        refine zr_iload_n (pc := 18) dX10_commonDivisor_18 rfl rfl ?_
        refine zr_iload_n (pc := 19) dX10_commonDivisor_19 rfl rfl ?_
        refine zr_irem (pc := 20) (by omega) (by omega) dX10_commonDivisor_20 ?_
        refine zr_istore (pc := 21) dX10_commonDivisor_21 (Nat.le_of_ble_eq_true rfl) rfl ?_
        refine zr_iload_n (pc := 23) dX10_commonDivisor_23 rfl rfl ?_
        refine zr_istore_n (pc := 24) dX10_commonDivisor_24 rfl (Nat.le_of_ble_eq_true rfl) rfl ?_
        refine zr_iload (pc := 25) dX10_commonDivisor_25 rfl ?_
        refine zr_istore_n (pc := 27) dX10_commonDivisor_27 rfl (Nat.le_of_ble_eq_true rfl) rfl ?_
        refine zr_iinc (pc := 28) dX10_commonDivisor_28 rfl (Nat.le_of_ble_eq_true rfl) rfl ?_
        refine zr_goto (pc := 31) (tgt := 7) dX10_commonDivisor_31 (by decide) ?_
        exact ih _ (by omega) _ _ _ _ rfl (by omega) (by omega) (by omega) (by omega) hG

set_option maxRecDepth 100000 in
set_option maxHeartbeats 4000000 in
theorem ct_X10_commonDivisor {g : zt_G} {M : zm_M} {q : Int → zm_M → Prop} {a b : Int} (ha : 0 ≤ a ∧ a < 2147483648) (hb : 0 < b ∧ b < 1073741824) (h : q (gcI a b) M) : zc_K g yX10_commonDivisor mX10_commonDivisor [zv_i a, zv_i b] M (zq_I q) := by
  refine zc_of (ls := [some (zv_i a), some (zv_i b), none, none, none, none]) (by decide) rfl ⟨rfl, rfl⟩ (Nat.le_of_ble_eq_true rfl) rfl ?_
  refine zr_iload_n (pc := 0) dX10_commonDivisor_0 rfl rfl ?_
  refine zr_istore_n (pc := 1) dX10_commonDivisor_1 rfl (Nat.le_of_ble_eq_true rfl) rfl ?_
  refine zr_iload_n (pc := 2) dX10_commonDivisor_2 rfl rfl ?_
  refine zr_istore_n (pc := 3) dX10_commonDivisor_3 rfl (Nat.le_of_ble_eq_true rfl) rfl ?_
  refine zr_iconst (pc := 4) dX10_commonDivisor_4 ?_
  refine zr_istore (pc := 5) dX10_commonDivisor_5 (Nat.le_of_ble_eq_true rfl) rfl ?_
  exact lp_X10_commonDivisor ha hb h _ _ _ _ _ rfl (by omega) (by omega) ha (by omega) (gcL_ok 30 64 a b ha.1 (by omega) (by have : (2 : Int) ^ 30 = 1073741824 := rfl; omega) (by decide))

set_option maxRecDepth 100000 in
set_option maxHeartbeats 4000000 in
theorem ct_X10_fractionPart {g : zt_G} {M : zm_M} {q : Int → zm_M → Prop} {a b : Int} (ha : 0 ≤ a ∧ a < 2147483648) (hb : 0 < b ∧ b < 1073741824) {u : Int} (hu : zi u) (h : q (frc u a b) M) : zc_K g yX10_fractionPart mX10_fractionPart [zv_i a, zv_i b, zv_i u] M (zq_I q) := by
  refine zc_of (ls := [some (zv_i a), some (zv_i b), some (zv_i u), none]) (by decide) rfl ⟨rfl, rfl⟩ (Nat.le_of_ble_eq_true rfl) rfl ?_
  have hg := gcI_in ha.1 hb.1
  refine zr_iconst (pc := 0) dX10_fractionPart_0 ?_
  refine zr_iload_n (pc := 1) dX10_fractionPart_1 rfl rfl ?_
  refine zr_iload_n (pc := 2) dX10_fractionPart_2 rfl rfl ?_
  refine zr_stat2I (pc := 3) rfl sX10_319 rfl rfl dX10_fractionPart_3 ?_
  refine ct_X10_commonDivisor ha hb ?_
  refine zr_mmax (pc := 6) rfl sX10_322 rfl dX10_fractionPart_6 ?_
  rw [zw_id (z := gcI a b) (by omega) (by omega), zw_id (z := 1) (by omega) (by omega), show (if (1 : Int) < gcI a b then gcI a b else 1) = gcI a b from by split <;> omega]
  refine zr_istore_n (pc := 9) dX10_fractionPart_9 rfl (Nat.le_of_ble_eq_true rfl) rfl ?_
  refine zr_iload_n (pc := 10) dX10_fractionPart_10 rfl rfl ?_
  refine zi_if_eq (pc := 11) (tgt := 20) dX10_fractionPart_11 (by decide) (by omega) (fun h11 => ?_) (fun h11 => ?_)
  · refine zr_iload_n (pc := 20) dX10_fractionPart_20 rfl rfl ?_
    refine zr_iload_n (pc := 21) dX10_fractionPart_21 rfl rfl ?_
    refine zr_idiv (pc := 22) (by omega) (by omega) dX10_fractionPart_22 ?_
    exact zr_ireturn (pc := 23) dX10_fractionPart_23 rfl (zq_eq h (by unfold frc; rw [if_pos h11]))
  · refine zr_iload_n (pc := 14) dX10_fractionPart_14 rfl rfl ?_
    refine zr_iload_n (pc := 15) dX10_fractionPart_15 rfl rfl ?_
    refine zr_idiv (pc := 16) (by omega) (by omega) dX10_fractionPart_16 ?_
    refine zr_goto (pc := 17) (tgt := 23) dX10_fractionPart_17 (by decide) ?_
    exact zr_ireturn (pc := 23) dX10_fractionPart_23 rfl (zq_eq h (by unfold frc; rw [if_neg h11]))

/-! told doings -/
def doT (L : Ln) (w a b : Int) (D : Cm) : Option Cm :=
  if w = 0 then (if a = 0 ∧ b = 0 then some (nit L 0 D) else none)
  else if w = 1 then (if cMay D a b then some (cgo a b D) else none)
  else if w = 2 then (if cHear D a b then some (chr a b D) else none)
  else if w = 3 then (if a = 0 ∧ cBat D b then some (cba b D) else none)
  else if w = 4 then (if cHas D a ∧ (1 ≤ b ∧ b ≤ 6) ∧ bt (cn D a) (b - 1) = true then some D else none)
  else if w = 5 then (if cHas D a ∧ b ≤ ch D a then some D else none)
  else none
theorem CW_doT {L : Ln} {w a b : Int} {D D2 : Cm} (hL : LW L) (h : CW D) (e : doT L w a b D = some D2) : CW D2 ∧ ct D2 = ct D := by
  unfold doT at e
  split at e
  · split at e
    · cases e
      exact ⟨CW_nit hL h, nit_ct⟩
    · cases e
  split at e
  · split at e
    · rename_i hx
      cases e
      exact ⟨CW_go h hx.1 ⟨hx.2.1.1, by omega⟩, rfl⟩
    · cases e
  split at e
  · split at e
    · cases e
      exact ⟨CW_chr h, rfl⟩
    · cases e
  split at e
  · split at e
    · cases e
      exact ⟨CW_cba h, rfl⟩
    · cases e
  split at e
  · split at e
    · cases e
      exact ⟨h, rfl⟩
    · cases e
  split at e
  · split at e
    · cases e
      exact ⟨h, rfl⟩
    · cases e
  · cases e
def jgD (n k row : Int) : Int := row / zk_row (n - 1 - k) % 1000
def jgL (L : Ln) (n row : Int) : Nat → Int → Cm → Int
  | 0, _, _ => -9
  | m + 1, k, D => match doT L (jgD n k row / 100) (jgD n k row / 10 % 10) (jgD n k row % 10) D with
    | none => k
    | some D2 => jgL L n row m (k + 1) D2
def aJudge (n row : Int) (L : Ln) (C : Cm) : Int := if n < 1 ∨ 4 < n ∨ row < 0 ∨ zk_row n ≤ row then -2 else jgL L n row n.toNat 0 C
def doY (L : Ln) (d : Int) (D : Cm) : Cm := if d < 40 then (if cMay D (d / 10) (d % 10) then cgo (d / 10) (d % 10) D else D) else if d < 44 then (if cBat D (d - 40) then cba (d - 40) D else D) else if d < 48 then (if cHear D (d - 44) ((d - 44 + 1) % 4) then chr (d - 44) ((d - 44 + 1) % 4) D else D) else nit L 0 D
theorem CW_doY {L : Ln} {d : Int} {D : Cm} (hL : LW L) (h : CW D) : CW (doY L d D) ∧ ct (doY L d D) = ct D := by
  unfold doY
  split
  · split
    · rename_i hx
      exact ⟨CW_go h hx.1 ⟨hx.2.1.1, by omega⟩, rfl⟩
    · exact ⟨h, rfl⟩
  split
  · split
    · exact ⟨CW_cba h, rfl⟩
    · exact ⟨h, rfl⟩
  split
  · split
    · exact ⟨CW_chr h, rfl⟩
    · exact ⟨h, rfl⟩
  · exact ⟨CW_nit hL h, nit_ct⟩
set_option maxRecDepth 100000 in
set_option maxHeartbeats 4000000 in
theorem ct_X10_canBe {g : zt_G} {M : zm_M} {q : Int → zm_M → Prop} (hC : CW (cvX M 22)) (hL : LW (lvX M 13)) {d a b : Int} (hd : zi d) (ha : zi a) (hb : zi b) (hno : doT (lvX M 13) d a b (cvX M 22) = none → ∀ M2, frC 22 M M2 → q 0 M2) (hyes : ∀ D2, doT (lvX M 13) d a b (cvX M 22) = some D2 → ∀ M2, frC 22 M M2 → cvX M2 22 = D2 → q 1 M2) : zc_K g yX10_canBe mX10_canBe [zv_r 0, zv_i d, zv_i a, zv_i b] M (zq_I q) := by
  refine zc_of (ls := [some (zv_r 0), some (zv_i d), some (zv_i a), some (zv_i b)]) (by decide) rfl ⟨rfl, rfl⟩ (Nat.le_of_ble_eq_true rfl) rfl ?_
  have hc5 := wXt hC
  refine zr_iload_n (pc := 0) dX10_canBe_0 rfl rfl ?_
  rcases (by omega : d = 0 ∨ d = 1 ∨ d = 2 ∨ d = 3 ∨ d = 4 ∨ d = 5 ∨ (d < 0 ∨ 5 < d)) with hsw1 | hsw1 | hsw1 | hsw1 | hsw1 | hsw1 | hsw1
  · refine zr_tab_in (pc := 1) (tgt := 40) dX10_canBe_1 (by rw [hsw1]; decide) (by rw [hsw1]; decide) (off := 39) (by rw [hsw1]; decide +kernel) (by decide) ?_
    refine zr_iload_n (pc := 40) dX10_canBe_40 rfl rfl ?_
    refine zi_if_ne (pc := 41) (tgt := 48) dX10_canBe_41 (by decide) (by omega) (fun h41 => ?_) (fun h41 => ?_)
    · refine zr_iconst (pc := 48) dX10_canBe_48 ?_
      exact zr_zreturn (pc := 49) dX10_canBe_49 rfl (by decide) (hno (by unfold doT; rw [if_pos hsw1]; exact if_neg (by omega)) _ frC.rf)
    · refine zr_iload_n (pc := 44) dX10_canBe_44 rfl rfl ?_
      refine zi_if_eq (pc := 45) (tgt := 50) dX10_canBe_45 (by decide) (by omega) (fun h45 => ?_) (fun h45 => ?_)
      · refine zr_aload_n (pc := 50) dX10_canBe_50 rfl rfl ?_
        refine zr_getR (pc := 51) fX10_37 lo_0 rfl rfl dX10_canBe_51 ?_
        refine zr_aload_n (pc := 54) dX10_canBe_54 rfl rfl ?_
        refine zr_getR (pc := 55) fX10_26 lo_0 rfl rfl dX10_canBe_55 ?_
        refine zr_iconst (pc := 58) dX10_canBe_58 ?_
        refine zr_inv2V (pc := 59) rfl sX10_167 lo_22 rfl rfl rfl dX10_canBe_59 ?_
        refine ct_X1_passNight zp_c22 zp_l13 (Or.inl (by decide)) hC hL ⟨by decide, by decide⟩ (fun M2 hf2 hv2 => ?_)
        refine zr_iconst (pc := 62) dX10_canBe_62 ?_
        exact zr_zreturn (pc := 63) dX10_canBe_63 rfl (by decide) (hyes _ (by unfold doT; rw [if_pos hsw1]; exact if_pos (by omega)) _ hf2 hv2)
      · refine zr_iconst (pc := 48) dX10_canBe_48 ?_
        exact zr_zreturn (pc := 49) dX10_canBe_49 rfl (by decide) (hno (by unfold doT; rw [if_pos hsw1]; exact if_neg (by omega)) _ frC.rf)
  · refine zr_tab_in (pc := 1) (tgt := 64) dX10_canBe_1 (by rw [hsw1]; decide) (by rw [hsw1]; decide) (off := 63) (by rw [hsw1]; decide +kernel) (by decide) ?_
    refine zr_aload_n (pc := 64) dX10_canBe_64 rfl rfl ?_
    refine zr_getR (pc := 65) fX10_37 lo_0 rfl rfl dX10_canBe_65 ?_
    refine zr_iload_n (pc := 68) dX10_canBe_68 rfl rfl ?_
    refine zr_iload_n (pc := 69) dX10_canBe_69 rfl rfl ?_
    refine zr_inv2I (pc := 70) rfl sX10_243 lo_22 rfl rfl rfl dX10_canBe_70 ?_
    refine ct_X1_goesIfItMay zp_c22 hC ha hb (fun hz => ?_) (fun hz M2 hf2 hv2 => ?_)
    · exact zr_zreturn (pc := 73) dX10_canBe_73 rfl (by decide) (hno (by unfold doT; rw [if_neg (by omega), if_pos hsw1]; exact if_neg hz) _ frC.rf)
    · exact zr_zreturn (pc := 73) dX10_canBe_73 rfl (by decide) (hyes _ (by unfold doT; rw [if_neg (by omega), if_pos hsw1]; exact if_pos hz) _ hf2 hv2)
  · refine zr_tab_in (pc := 1) (tgt := 74) dX10_canBe_1 (by rw [hsw1]; decide) (by rw [hsw1]; decide) (off := 73) (by rw [hsw1]; decide +kernel) (by decide) ?_
    refine zr_aload_n (pc := 74) dX10_canBe_74 rfl rfl ?_
    refine zr_getR (pc := 75) fX10_37 lo_0 rfl rfl dX10_canBe_75 ?_
    refine zr_iload_n (pc := 78) dX10_canBe_78 rfl rfl ?_
    refine zr_iload_n (pc := 79) dX10_canBe_79 rfl rfl ?_
    refine zr_inv2I (pc := 80) rfl sX10_246 lo_22 rfl rfl rfl dX10_canBe_80 ?_
    refine ct_X1_hearsIfItMay zp_c22 hC ha hb (fun hz => ?_) (fun hz M2 hf2 hv2 => ?_)
    · exact zr_zreturn (pc := 83) dX10_canBe_83 rfl (by decide) (hno (by unfold doT; rw [if_neg (by omega), if_neg (by omega), if_pos hsw1]; exact if_neg hz) _ frC.rf)
    · exact zr_zreturn (pc := 83) dX10_canBe_83 rfl (by decide) (hyes _ (by unfold doT; rw [if_neg (by omega), if_neg (by omega), if_pos hsw1]; exact if_pos hz) _ hf2 hv2)
  · refine zr_tab_in (pc := 1) (tgt := 84) dX10_canBe_1 (by rw [hsw1]; decide) (by rw [hsw1]; decide) (off := 83) (by rw [hsw1]; decide +kernel) (by decide) ?_
    refine zr_iload_n (pc := 84) dX10_canBe_84 rfl rfl ?_
    refine zi_if_ne (pc := 85) (tgt := 103) dX10_canBe_85 (by decide) (by omega) (fun h85 => ?_) (fun h85 => ?_)
    · refine zr_iconst (pc := 103) dX10_canBe_103 ?_
      exact zr_zreturn (pc := 104) dX10_canBe_104 rfl (by decide) (hno (by unfold doT; rw [if_neg (by omega), if_neg (by omega), if_neg (by omega), if_pos hsw1]; exact if_neg (fun y => h85 y.1)) _ frC.rf)
    · refine zr_aload_n (pc := 88) dX10_canBe_88 rfl rfl ?_
      refine zr_getR (pc := 89) fX10_37 lo_0 rfl rfl dX10_canBe_89 ?_
      refine zr_iload_n (pc := 92) dX10_canBe_92 rfl rfl ?_
      refine zr_inv1I (pc := 93) rfl sX10_249 lo_22 rfl rfl rfl dX10_canBe_93 ?_
      refine ct_X1_bathesIfItMay zp_c22 hC hb (fun hz => ?_) (fun hz M2 hf2 hv2 => ?_)
      · refine zi_if_eq (pc := 96) (tgt := 103) dX10_canBe_96 (by decide) (by decide) (fun h96 => ?_) (fun h96 => ?_)
        · refine zr_iconst (pc := 103) dX10_canBe_103 ?_
          exact zr_zreturn (pc := 104) dX10_canBe_104 rfl (by decide) (hno (by unfold doT; rw [if_neg (by omega), if_neg (by omega), if_neg (by omega), if_pos hsw1]; exact if_neg (fun y => hz y.2)) _ frC.rf)
        · exact absurd h96 (by decide)
      · refine zi_if_eq (pc := 96) (tgt := 103) dX10_canBe_96 (by decide) (by decide) (fun h96 => ?_) (fun h96 => ?_)
        · exact absurd h96 (by decide)
        · refine zr_iconst (pc := 99) dX10_canBe_99 ?_
          refine zr_goto (pc := 100) (tgt := 104) dX10_canBe_100 (by decide) ?_
          exact zr_zreturn (pc := 104) dX10_canBe_104 rfl (by decide) (hyes _ (by unfold doT; rw [if_neg (by omega), if_neg (by omega), if_neg (by omega), if_pos hsw1]; exact if_pos ⟨h85, hz⟩) _ hf2 hv2)
  · refine zr_tab_in (pc := 1) (tgt := 105) dX10_canBe_1 (by rw [hsw1]; decide) (by rw [hsw1]; decide) (off := 104) (by rw [hsw1]; decide +kernel) (by decide) ?_
    refine zr_aload_n (pc := 105) dX10_canBe_105 rfl rfl ?_
    refine zr_getR (pc := 106) fX10_37 lo_0 rfl rfl dX10_canBe_106 ?_
    refine zr_iload_n (pc := 109) dX10_canBe_109 rfl rfl ?_
    refine zr_inv1I (pc := 110) rfl sX10_138 lo_22 rfl rfl rfl dX10_canBe_110 ?_
    refine ct_X1_has zp_c22 hC ha ?_
    refine zr_ifb_eq (pc := 113) (tgt := 145) dX10_canBe_113 (by decide) (fun h113 => ?_) (fun h113 => ?_)
    · refine zr_iconst (pc := 145) dX10_canBe_145 ?_
      exact zr_zreturn (pc := 146) dX10_canBe_146 rfl (by decide) (hno (by unfold doT; rw [if_neg (by omega), if_neg (by omega), if_neg (by omega), if_neg (by omega), if_pos hsw1]; exact if_neg (fun y => h113 y.1)) _ frC.rf)
    · refine zr_iload_n (pc := 116) dX10_canBe_116 rfl rfl ?_
      refine zr_stat1I (pc := 117) rfl sX10_252 rfl rfl dX10_canBe_117 ?_
      refine ct_X10_isLayerFigure hb ?_
      refine zr_ifb_eq (pc := 120) (tgt := 145) dX10_canBe_120 (by decide) (fun h120 => ?_) (fun h120 => ?_)
      · refine zr_iconst (pc := 145) dX10_canBe_145 ?_
        exact zr_zreturn (pc := 146) dX10_canBe_146 rfl (by decide) (hno (by unfold doT; rw [if_neg (by omega), if_neg (by omega), if_neg (by omega), if_neg (by omega), if_pos hsw1]; exact if_neg (fun y => h120 y.2.1)) _ frC.rf)
      · have ht2 : 0 ≤ a ∧ a < M 22 5 := h113
        have hy : (0 ≤ M 23 a ∧ M 23 a ≤ 9) ∧ (0 ≤ M 24 a ∧ M 24 a ≤ 3) ∧ (0 ≤ M 25 a ∧ M 25 a < 64) ∧ (0 ≤ M 26 a ∧ M 26 a ≤ 9) := wX hC ht2
        have hb6 := and6 hy.2.2.1 (l := b - 1) ⟨by omega, by omega⟩
        have en : cn (cvX M 22) a = M 25 a := vX_n ht2
        refine zr_aload_n (pc := 123) dX10_canBe_123 rfl rfl ?_
        refine zr_getR (pc := 124) fX10_37 lo_0 rfl rfl dX10_canBe_124 ?_
        refine zr_getR (pc := 127) fX10_143 lo_22 rfl rfl dX10_canBe_127 ?_
        refine zr_iload_n (pc := 130) dX10_canBe_130 rfl rfl ?_
        refine zr_iaload (pc := 131) lo_25 (by omega) dX10_canBe_131 ?_
        refine zr_iconst (pc := 132) dX10_canBe_132 ?_
        refine zr_iload_n (pc := 133) dX10_canBe_133 rfl rfl ?_
        refine zr_iconst (pc := 134) dX10_canBe_134 ?_
        refine zr_isub (pc := 135) dX10_canBe_135 ?_
        refine zr_ishl (pc := 136) dX10_canBe_136 ?_
        refine zr_iand (pc := 137) dX10_canBe_137 ?_
        refine zi_if_eq (pc := 138) (tgt := 145) dX10_canBe_138 (by decide) (by omega) (fun h138 => ?_) (fun h138 => ?_)
        · refine zr_iconst (pc := 145) dX10_canBe_145 ?_
          exact zr_zreturn (pc := 146) dX10_canBe_146 rfl (by decide) (hno (by unfold doT; rw [if_neg (by omega), if_neg (by omega), if_neg (by omega), if_neg (by omega), if_pos hsw1]; exact if_neg (fun y => btF hb6.1 h138 (by rw [← en]; exact y.2.2))) _ frC.rf)
        · refine zr_iconst (pc := 141) dX10_canBe_141 ?_
          refine zr_goto (pc := 142) (tgt := 146) dX10_canBe_142 (by decide) ?_
          exact zr_zreturn (pc := 146) dX10_canBe_146 rfl (by decide) (hyes _ (by unfold doT; rw [if_neg (by omega), if_neg (by omega), if_neg (by omega), if_neg (by omega), if_pos hsw1]; exact if_pos ⟨h113, h120, by rw [en]; exact btT hb6.1 h138⟩) _ frC.rf rfl)
  · refine zr_tab_in (pc := 1) (tgt := 147) dX10_canBe_1 (by rw [hsw1]; decide) (by rw [hsw1]; decide) (off := 146) (by rw [hsw1]; decide +kernel) (by decide) ?_
    refine zr_aload_n (pc := 147) dX10_canBe_147 rfl rfl ?_
    refine zr_getR (pc := 148) fX10_37 lo_0 rfl rfl dX10_canBe_148 ?_
    refine zr_iload_n (pc := 151) dX10_canBe_151 rfl rfl ?_
    refine zr_inv1I (pc := 152) rfl sX10_138 lo_22 rfl rfl rfl dX10_canBe_152 ?_
    refine ct_X1_has zp_c22 hC ha ?_
    refine zr_ifb_eq (pc := 155) (tgt := 175) dX10_canBe_155 (by decide) (fun h155 => ?_) (fun h155 => ?_)
    · refine zr_iconst (pc := 175) dX10_canBe_175 ?_
      exact zr_zreturn (pc := 176) dX10_canBe_176 rfl (by decide) (hno (by unfold doT; rw [if_neg (by omega), if_neg (by omega), if_neg (by omega), if_neg (by omega), if_neg (by omega), if_pos hsw1]; exact if_neg (fun y => h155 y.1)) _ frC.rf)
    · have ht2 : 0 ≤ a ∧ a < M 22 5 := h155
      have hy : (0 ≤ M 23 a ∧ M 23 a ≤ 9) ∧ (0 ≤ M 24 a ∧ M 24 a ≤ 3) ∧ (0 ≤ M 25 a ∧ M 25 a < 64) ∧ (0 ≤ M 26 a ∧ M 26 a ≤ 9) := wX hC ht2
      have en : ch (cvX M 22) a = M 26 a := vX_h ht2
      refine zr_aload_n (pc := 158) dX10_canBe_158 rfl rfl ?_
      refine zr_getR (pc := 159) fX10_37 lo_0 rfl rfl dX10_canBe_159 ?_
      refine zr_getR (pc := 162) fX10_146 lo_22 rfl rfl dX10_canBe_162 ?_
      refine zr_iload_n (pc := 165) dX10_canBe_165 rfl rfl ?_
      refine zr_iaload (pc := 166) lo_26 (by omega) dX10_canBe_166 ?_
      refine zr_iload_n (pc := 167) dX10_canBe_167 rfl rfl ?_
      refine zi_icmp_lt (pc := 168) (tgt := 175) dX10_canBe_168 (by decide) (by omega) (by omega) (fun h168 => ?_) (fun h168 => ?_)
      · refine zr_iconst (pc := 175) dX10_canBe_175 ?_
        exact zr_zreturn (pc := 176) dX10_canBe_176 rfl (by decide) (hno (by unfold doT; rw [if_neg (by omega), if_neg (by omega), if_neg (by omega), if_neg (by omega), if_neg (by omega), if_pos hsw1]; exact if_neg (fun y => absurd y.2 (by rw [en]; omega))) _ frC.rf)
      · refine zr_iconst (pc := 171) dX10_canBe_171 ?_
        refine zr_goto (pc := 172) (tgt := 176) dX10_canBe_172 (by decide) ?_
        exact zr_zreturn (pc := 176) dX10_canBe_176 rfl (by decide) (hyes _ (by unfold doT; rw [if_neg (by omega), if_neg (by omega), if_neg (by omega), if_neg (by omega), if_neg (by omega), if_pos hsw1]; exact if_pos ⟨h155, by rw [en]; exact h168⟩) _ frC.rf rfl)
  · refine zr_tab_out (pc := 1) (tgt := 177) dX10_canBe_1 (by rw [zw_id (by omega) (by omega)]; exact hsw1) (by decide) ?_
    refine zr_iconst (pc := 177) dX10_canBe_177 ?_
    exact zr_zreturn (pc := 178) dX10_canBe_178 rfl (by decide) (hno (by unfold doT; rw [if_neg (by omega), if_neg (by omega), if_neg (by omega), if_neg (by omega), if_neg (by omega), if_neg (by omega)]) _ frC.rf)

theorem zk_in {a : Int} (h : 0 ≤ a ∧ a ≤ 4) : 1 ≤ zk_row a ∧ zk_row a ≤ 1000000000000 := by
  unfold zk_row
  split
  · omega
  split
  · omega
  split
  · omega
  split <;> omega
theorem jg_in {n k row : Int} (h : 0 ≤ row) : 0 ≤ jgD n k row ∧ jgD n k row < 1000 := by
  unfold jgD
  omega
theorem lc_lt {a b : Int} (ha : zx a = a) (hb : zx b = b) : (zl_cmp a b < 0 ↔ a < b) ∧ zi (zl_cmp a b) := by
  unfold zl_cmp
  rw [ha, hb]
  split
  · exact ⟨by omega, by omega⟩
  split
  · exact ⟨by omega, by omega⟩
  · exact ⟨by omega, by omega⟩
theorem jgL_s (L : Ln) (n row : Int) (m : Nat) (k : Int) (D : Cm) : jgL L n row (m + 1) k D = match doT L (jgD n k row / 100) (jgD n k row / 10 % 10) (jgD n k row % 10) D with
    | none => k
    | some D2 => jgL L n row m (k + 1) D2 := rfl
set_option maxRecDepth 100000 in
set_option maxHeartbeats 4000000 in
theorem lp_X10_judge {g : zt_G} {M : zm_M} {σ : Sg} {q : Int → zm_M → Prop} (hR : RX σ M) (hW : SW σ) {n row : Int} (hn : 1 ≤ n ∧ n ≤ 4) (hr : 0 ≤ row ∧ row < 9223372036854775808) (h : ∀ M2, frX M M2 → RX σ M2 → q (jgL (sL σ) n row n.toNat 0 (sC σ)) M2) : ∀ (nn : Nat) (k : Int) (x5 : Option zv_A) (Mx : zm_M), (n - k).toNat = nn → 0 ≤ k → k ≤ n → frC 22 M Mx → CW (cvX Mx 22) → jgL (sL σ) n row (n - k).toNat k (cvX Mx 22) = jgL (sL σ) n row n.toNat 0 (sC σ) → zc_Z g mX10_judge 43 [some (zv_r 0), some (zv_i n), some (zv_l row), none, some (zv_i k), x5] [] Mx (zq_I q) := by
  intro nn
  induction nn using Nat.strongRecOn with
  | ind nn ih =>
    intro k x5 Mx hnn h0 h1 hfr hCx hJ
    obtain ⟨hT, hl, hcv, hA, hK, hS, hD⟩ := id hR
    obtain ⟨wT, wTx, wL, ⟨wC, wZ⟩, wA, wK, wS⟩ := id hW
    have hLw : LW (lvX M 13) := by rw [hl]; exact wL
    have hCw : CW (cvX M 17) := by rw [hcv]; exact wC
    have hw0 := wXt hCw
    have hL0 := yXk hLw
    have hk1 : M 13 3 = (sL σ).1 := by rw [← hl]; rfl
    have ht1 : M 17 5 = ct (sC σ) := by rw [← hcv]; rfl
    have hT1 := hT.1
    have hLx : lvX Mx 13 = sL σ := by rw [lvX_fr (fun k i a b => hfr k i (by omega)), hl]
    have hLwx : LW (lvX Mx 13) := by rw [hLx]; exact wL
    refine zr_iload (pc := 43) dX10_judge_43 rfl ?_
    refine zr_iload_n (pc := 45) dX10_judge_45 rfl rfl ?_
    refine zi_icmp_ge (pc := 46) (tgt := 102) dX10_judge_46 (by decide) (by omega) (by omega) (fun h46 => ?_) (fun h46 => ?_)
    · refine zr_bipush (pc := 102) dX10_judge_102 (by decide) ?_
      exact zr_ireturn (pc := 104) dX10_judge_104 rfl (zq_eq (h Mx (fun k i a => hfr k i (by omega)) (RX_frs hR (fun k i a b => hfr k i (by unfold zsc at b; omega)))) (by rw [← hJ, show (n - k).toNat = 0 by omega]; rfl))
    · rw [show (n - k).toNat = (n - (k + 1)).toNat + 1 by omega, jgL_s] at hJ
      have hz := zk_in (a := n - 1 - k) (by omega)
      have hj := jg_in (n := n) (k := k) hr.1
      have hdv := Int.ediv_nonneg hr.1 (show 0 ≤ zk_row (n - 1 - k) by omega)
      have hdv2 := Int.ediv_le_self (zk_row (n - 1 - k)) hr.1
      refine zr_lload_n (pc := 49) dX10_judge_49 rfl rfl ?_
      refine zr_gets (pc := 50) fw_static rfl dX10_judge_50 ?_
      refine zr_iload_n (pc := 53) dX10_judge_53 rfl rfl ?_
      refine zr_iconst (pc := 54) dX10_judge_54 ?_
      refine zr_isub (pc := 55) dX10_judge_55 ?_
      refine zr_iload (pc := 56) dX10_judge_56 rfl ?_
      refine zr_isub (pc := 58) dX10_judge_58 ?_
      refine zr_rowld (pc := 59) (by omega) dX10_judge_59 ?_
      refine zr_ldiv (pc := 60) (by omega) (by omega) dX10_judge_60 ?_
      refine zr_ldc2 (pc := 61) (z := 1000) rfl kX10_237 (by decide +kernel) dX10_judge_61 ?_
      refine zr_lrem (pc := 64) (by omega) (by omega) dX10_judge_64 ?_
      refine zr_l2i (pc := 65) dX10_judge_65 ?_
      rw [show row / zk_row (n - 1 - k) % 1000 = jgD n k row from rfl]
      refine zr_istore (pc := 66) dX10_judge_66 (Nat.le_of_ble_eq_true rfl) rfl ?_
      refine zr_aload_n (pc := 68) dX10_judge_68 rfl rfl ?_
      refine zr_iload (pc := 69) dX10_judge_69 rfl ?_
      refine zr_bipush (pc := 71) dX10_judge_71 (by decide) ?_
      refine zr_idiv (pc := 73) (by omega) (by omega) dX10_judge_73 ?_
      refine zr_iload (pc := 74) dX10_judge_74 rfl ?_
      refine zr_bipush (pc := 76) dX10_judge_76 (by decide) ?_
      refine zr_idiv (pc := 78) (by omega) (by omega) dX10_judge_78 ?_
      refine zr_bipush (pc := 79) dX10_judge_79 (by decide) ?_
      refine zr_irem (pc := 81) (by omega) (by omega) dX10_judge_81 ?_
      refine zr_iload (pc := 82) dX10_judge_82 rfl ?_
      refine zr_bipush (pc := 84) dX10_judge_84 (by decide) ?_
      refine zr_irem (pc := 86) (by omega) (by omega) dX10_judge_86 ?_
      refine zr_inv3I (pc := 87) rfl sX10_239 lo_0 rfl rfl rfl dX10_judge_87 ?_
      refine ct_X10_canBe hCx hLwx (by omega) (by omega) (by omega) (fun hz M2 hf2 => ?_) (fun D2 hz M2 hf2 hv2 => ?_)
      · rw [hLx] at hz
        rw [hz] at hJ
        dsimp only at hJ
        have hfr2 := hfr.tr hf2
        refine zi_if_ne (pc := 90) (tgt := 96) dX10_judge_90 (by decide) (by decide) (fun h90 => ?_) (fun h90 => ?_)
        · exact absurd h90 (by decide)
        · refine zr_iload (pc := 93) dX10_judge_93 rfl ?_
          exact zr_ireturn (pc := 95) dX10_judge_95 rfl (zq_eq (h M2 (fun k i a => hfr2 k i (by omega)) (RX_frs hR (fun k i a b => hfr2 k i (by unfold zsc at b; omega)))) (by rw [← hJ]))
      · rw [hLx] at hz
        rw [hz] at hJ
        dsimp only at hJ
        refine zi_if_ne (pc := 90) (tgt := 96) dX10_judge_90 (by decide) (by decide) (fun h90 => ?_) (fun h90 => ?_)
        · refine zr_iinc (pc := 96) dX10_judge_96 rfl (Nat.le_of_ble_eq_true rfl) rfl ?_
          refine zr_goto (pc := 99) (tgt := 43) dX10_judge_99 (by decide) ?_
          exact ih _ (by omega) _ _ _ rfl (by omega) (by omega) (hfr.tr hf2) (by rw [hv2]; exact (CW_doT wL hCx hz).1) (by rw [hv2]; exact hJ)
        · exact absurd h90 (by decide)

set_option maxRecDepth 100000 in
set_option maxHeartbeats 4000000 in
theorem ct_X10_judge {g : zt_G} {M : zm_M} {σ : Sg} {q : Int → zm_M → Prop} (hR : RX σ M) (hW : SW σ) {n row : Int} (hn : zi n) (hr : -9223372036854775808 ≤ row ∧ row < 9223372036854775808) (h : ∀ M2, frX M M2 → RX σ M2 → q (aJudge n row (sL σ) (sC σ)) M2) : zc_K g yX10_judge mX10_judge [zv_r 0, zv_i n, zv_l row] M (zq_I q) := by
  refine zc_of (ls := [some (zv_r 0), some (zv_i n), some (zv_l row), none, none, none]) (by decide) rfl ⟨rfl, rfl⟩ (Nat.le_of_ble_eq_true rfl) rfl ?_
  obtain ⟨hT, hl, hcv, hA, hK, hS, hD⟩ := id hR
  obtain ⟨wT, wTx, wL, ⟨wC, wZ⟩, wA, wK, wS⟩ := id hW
  have hLw : LW (lvX M 13) := by rw [hl]; exact wL
  have hCw : CW (cvX M 17) := by rw [hcv]; exact wC
  have hw0 := wXt hCw
  have hL0 := yXk hLw
  have hk1 : M 13 3 = (sL σ).1 := by rw [← hl]; rfl
  have ht1 : M 17 5 = ct (sC σ) := by rw [← hcv]; rfl
  have hT1 := hT.1
  have er : zx row = row := zx_id hr.1 hr.2
  have hc0 := lc_lt (a := row) (b := 0) er (zx_id (by decide) (by decide))
  refine zr_iload_n (pc := 0) dX10_judge_0 rfl rfl ?_
  refine zr_iconst (pc := 1) dX10_judge_1 ?_
  refine zi_icmp_lt (pc := 2) (tgt := 26) dX10_judge_2 (by decide) (by omega) (by omega) (fun h2 => ?_) (fun h2 => ?_)
  · refine zr_bipush (pc := 26) dX10_judge_26 (by decide) ?_
    exact zr_ireturn (pc := 28) dX10_judge_28 rfl (zq_eq (h M (fun _ _ _ => rfl) hR) (by unfold aJudge; rw [if_pos (by omega)]))
  · refine zr_iload_n (pc := 5) dX10_judge_5 rfl rfl ?_
    refine zr_iconst (pc := 6) dX10_judge_6 ?_
    refine zi_icmp_gt (pc := 7) (tgt := 26) dX10_judge_7 (by decide) (by omega) (by omega) (fun h7 => ?_) (fun h7 => ?_)
    · refine zr_bipush (pc := 26) dX10_judge_26 (by decide) ?_
      exact zr_ireturn (pc := 28) dX10_judge_28 rfl (zq_eq (h M (fun _ _ _ => rfl) hR) (by unfold aJudge; rw [if_pos (by omega)]))
    · refine zr_lload_n (pc := 10) dX10_judge_10 rfl rfl ?_
      refine zr_lconst (pc := 11) (z := 0) dX10_judge_11 (by decide +kernel) ?_
      refine zr_lcmp (pc := 12) dX10_judge_12 ?_
      refine zi_if_lt (pc := 13) (tgt := 26) dX10_judge_13 (by decide) hc0.2 (fun h13 => ?_) (fun h13 => ?_)
      · refine zr_bipush (pc := 26) dX10_judge_26 (by decide) ?_
        exact zr_ireturn (pc := 28) dX10_judge_28 rfl (zq_eq (h M (fun _ _ _ => rfl) hR) (by unfold aJudge; rw [if_pos (by omega)]))
      · have hz := zk_in (a := n) (by omega)
        have hc1 := lc_lt (a := row) (b := zk_row n) er (zx_id (by omega) (by omega))
        refine zr_lload_n (pc := 16) dX10_judge_16 rfl rfl ?_
        refine zr_gets (pc := 17) fw_static rfl dX10_judge_17 ?_
        refine zr_iload_n (pc := 20) dX10_judge_20 rfl rfl ?_
        refine zr_rowld (pc := 21) (by omega) dX10_judge_21 ?_
        refine zr_lcmp (pc := 22) dX10_judge_22 ?_
        refine zi_if_lt (pc := 23) (tgt := 29) dX10_judge_23 (by decide) hc1.2 (fun h23 => ?_) (fun h23 => ?_)
        · refine zr_aload_n (pc := 29) dX10_judge_29 rfl rfl ?_
          refine zr_getR (pc := 30) fX10_37 lo_0 rfl rfl dX10_judge_30 ?_
          refine zr_aload_n (pc := 33) dX10_judge_33 rfl rfl ?_
          refine zr_getR (pc := 34) fX10_33 lo_0 rfl rfl dX10_judge_34 ?_
          refine zr_inv1V (pc := 37) rfl sX10_104 lo_22 rfl rfl rfl dX10_judge_37 ?_
          refine ct_X1_copyFrom zp_c22 zp_c17 (Or.inl (by decide)) hCw (fun M1 hf1 hv1 => ?_)
          rw [hcv] at hv1
          refine zr_iconst (pc := 40) dX10_judge_40 ?_
          refine zr_istore (pc := 41) dX10_judge_41 (Nat.le_of_ble_eq_true rfl) rfl ?_
          refine lp_X10_judge (g := g) hR hW (by omega) ⟨by omega, hr.2⟩ (fun M2 a b => ?_) _ _ _ M1 rfl (by omega) (by omega) hf1 (by rw [hv1]; exact wC) (by rw [hv1, Int.sub_zero])
          have h9 := h M2 a b
          unfold aJudge at h9
          rw [if_neg (by omega)] at h9
          exact h9
        · refine zr_bipush (pc := 26) dX10_judge_26 (by decide) ?_
          exact zr_ireturn (pc := 28) dX10_judge_28 rfl (zq_eq (h M (fun _ _ _ => rfl) hR) (by unfold aJudge; rw [if_pos (by omega)]))

