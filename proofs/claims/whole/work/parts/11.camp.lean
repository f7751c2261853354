set_option maxRecDepth 100000 in
set_option maxHeartbeats 4000000 in
theorem ct_X1_has {g : zt_G} {M : zm_M} {c : Nat} {q : Int → zm_M → Prop} (hc : zp_camp c) {t : Int} (ht : zi t) (hw : zp_cw M c) (h : q (zb_B (0 ≤ t ∧ t < M c 5)) M) : zc_K g yX1_has mX1_has [zv_r c, zv_i t] M (zq_I q) := by
  refine zc_of (ls := [some (zv_r c), some (zv_i t)]) (by decide) rfl ⟨rfl, rfl⟩ (Nat.le_of_ble_eq_true rfl) rfl ?_
  have hw1 := hw.1
  refine zr_iload_n (pc := 0) dX1_has_0 rfl rfl ?_
  refine zi_if_lt (pc := 1) (tgt := 16) dX1_has_1 (by decide) (by omega) (fun h1 => ?_) (fun h1 => ?_)
  · refine zr_iconst (pc := 16) dX1_has_16 ?_
    exact zr_zreturn (pc := 17) dX1_has_17 rfl (by decide) (zq_eq h (zb_F (by omega)))
  · refine zr_iload_n (pc := 4) dX1_has_4 rfl rfl ?_
    refine zr_aload_n (pc := 5) dX1_has_5 rfl rfl ?_
    refine zr_getI (pc := 6) (z := 5) fX1_28 hc.1 rfl rfl rfl dX1_has_6 ?_
    refine zi_icmp_ge (pc := 9) (tgt := 16) dX1_has_9 (by decide) (by omega) (by omega) (fun h9 => ?_) (fun h9 => ?_)
    · refine zr_iconst (pc := 16) dX1_has_16 ?_
      exact zr_zreturn (pc := 17) dX1_has_17 rfl (by decide) (zq_eq h (zb_F (by omega)))
    · refine zr_iconst (pc := 12) dX1_has_12 ?_
      refine zr_goto (pc := 13) (tgt := 17) dX1_has_13 (by decide) ?_
      exact zr_zreturn (pc := 17) dX1_has_17 rfl (by decide) (zq_eq h (zb_T (by omega)))

set_option maxRecDepth 100000 in
set_option maxHeartbeats 4000000 in
theorem ct_X1_isHummock {g : zt_G} {M : zm_M} {c : Nat} {q : Int → zm_M → Prop} (hc : zp_camp c) {t : Int} (ht : 0 ≤ t ∧ t < 4) (hw : zp_cw M c) (h : q (zb_B (9 ≤ M (c + 4) t)) M) : zc_K g yX1_isHummock mX1_isHummock [zv_r c, zv_i t] M (zq_I q) := by
  refine zc_of (ls := [some (zv_r c), some (zv_i t)]) (by decide) rfl ⟨rfl, rfl⟩ (Nat.le_of_ble_eq_true rfl) rfl ?_
  have hw1 := hw.2.2 t ht.1 ht.2
  refine zr_aload_n (pc := 0) dX1_isHummock_0 rfl rfl ?_
  refine zr_getR (pc := 1) fX1_21 hc.1 rfl rfl dX1_isHummock_1 ?_
  refine zr_iload_n (pc := 4) dX1_isHummock_4 rfl rfl ?_
  refine zr_iaload (pc := 5) hc.2.2.2.2 (by omega) dX1_isHummock_5 ?_
  refine zr_bipush (pc := 6) dX1_isHummock_6 (by decide) ?_
  refine zi_icmp_lt (pc := 8) (tgt := 15) dX1_isHummock_8 (by decide) (by omega) (by omega) (fun h8 => ?_) (fun h8 => ?_)
  · refine zr_iconst (pc := 15) dX1_isHummock_15 ?_
    exact zr_zreturn (pc := 16) dX1_isHummock_16 rfl (by decide) (zq_eq h (zb_F (by omega)))
  · refine zr_iconst (pc := 11) dX1_isHummock_11 ?_
    refine zr_goto (pc := 12) (tgt := 16) dX1_isHummock_12 (by decide) ?_
    exact zr_zreturn (pc := 16) dX1_isHummock_16 rfl (by decide) (zq_eq h (zb_T (by omega)))

set_option maxRecDepth 100000 in
set_option maxHeartbeats 4000000 in
theorem ct_X1_speedOf {g : zt_G} {M : zm_M} {c : Nat} {q : Int → zm_M → Prop} (hc : zp_camp c) {t : Int} (ht : 0 ≤ t ∧ t < 4) (hw : zp_cw M c) (h : q (3 - M (c + 4) t / 3) M) : zc_K g yX1_speedOf mX1_speedOf [zv_r c, zv_i t] M (zq_I q) := by
  refine zc_of (ls := [some (zv_r c), some (zv_i t)]) (by decide) rfl ⟨rfl, rfl⟩ (Nat.le_of_ble_eq_true rfl) rfl ?_
  have hw1 := hw.2.2 t ht.1 ht.2
  refine zr_iconst (pc := 0) dX1_speedOf_0 ?_
  refine zr_aload_n (pc := 1) dX1_speedOf_1 rfl rfl ?_
  refine zr_getR (pc := 2) fX1_21 hc.1 rfl rfl dX1_speedOf_2 ?_
  refine zr_iload_n (pc := 5) dX1_speedOf_5 rfl rfl ?_
  refine zr_iaload (pc := 6) hc.2.2.2.2 (by omega) dX1_speedOf_6 ?_
  refine zr_iconst (pc := 7) dX1_speedOf_7 ?_
  refine zr_idiv (pc := 8) (by omega) (by omega) dX1_speedOf_8 ?_
  refine zr_isub (pc := 9) dX1_speedOf_9 ?_
  exact zr_ireturn (pc := 10) dX1_speedOf_10 rfl (zq_eq h rfl)

theorem zb_walk : ∀ w : Nat, w < 16 → ∀ t : Nat, t < 4 → (¬ zb_and (w : Int) (zb_shl 1 (t : Int)) = 0 ↔ (w / 2 ^ t) % 2 = 1) ∧ 0 ≤ zb_and (w : Int) (zb_shl 1 (t : Int)) ∧ zb_and (w : Int) (zb_shl 1 (t : Int)) < 16 := by decide +kernel
/-- whether bit t of w is set -/
def zb_bit (w t : Int) : Prop := (w.toNat / 2 ^ t.toNat) % 2 = 1
theorem zb_walk2 {w t : Int} (hw : 0 ≤ w ∧ w < 16) (ht : 0 ≤ t ∧ t < 4) : (¬ zb_and w (zb_shl 1 t) = 0 ↔ zb_bit w t) ∧ 0 ≤ zb_and w (zb_shl 1 t) ∧ zb_and w (zb_shl 1 t) < 16 := by
  obtain ⟨w, rfl⟩ := Int.eq_ofNat_of_zero_le hw.1
  obtain ⟨t, rfl⟩ := Int.eq_ofNat_of_zero_le ht.1
  exact zb_walk w (by omega) t (by omega)
theorem zb_bd (w t : Int) : zb_bit w t ∨ ¬ zb_bit w t := Classical.em _
