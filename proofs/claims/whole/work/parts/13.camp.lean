set_option maxRecDepth 100000 in
set_option maxHeartbeats 4000000 in
theorem ct_X10_isPlace {g : zt_G} {M : zm_M} {q : Int → zm_M → Prop} {p : Int} (hp : zi p) (h : q (zb_B (0 ≤ p ∧ p < 10)) M) : zc_K g yX10_isPlace mX10_isPlace [zv_i p] M (zq_I q) := by
  refine zc_of (ls := [some (zv_i p)]) (by decide) rfl ⟨rfl, rfl⟩ (Nat.le_of_ble_eq_true rfl) rfl ?_
  refine zr_iload_n (pc := 0) dX10_isPlace_0 rfl rfl ?_
  refine zi_if_lt (pc := 1) (tgt := 14) dX10_isPlace_1 (by decide) (by omega) (fun h1 => ?_) (fun h1 => ?_)
  · refine zr_iconst (pc := 14) dX10_isPlace_14 ?_
    exact zr_zreturn (pc := 15) dX10_isPlace_15 rfl (by decide) (zq_eq h (zb_F (by omega)))
  · refine zr_iload_n (pc := 4) dX10_isPlace_4 rfl rfl ?_
    refine zr_bipush (pc := 5) dX10_isPlace_5 (by decide) ?_
    refine zi_icmp_ge (pc := 7) (tgt := 14) dX10_isPlace_7 (by decide) (by omega) (by omega) (fun h7 => ?_) (fun h7 => ?_)
    · refine zr_iconst (pc := 14) dX10_isPlace_14 ?_
      exact zr_zreturn (pc := 15) dX10_isPlace_15 rfl (by decide) (zq_eq h (zb_F (by omega)))
    · refine zr_iconst (pc := 10) dX10_isPlace_10 ?_
      refine zr_goto (pc := 11) (tgt := 15) dX10_isPlace_11 (by decide) ?_
      exact zr_zreturn (pc := 15) dX10_isPlace_15 rfl (by decide) (zq_eq h (zb_T (by omega)))

set_option maxRecDepth 100000 in
set_option maxHeartbeats 4000000 in
theorem ct_X10_isSlot {g : zt_G} {M : zm_M} {q : Int → zm_M → Prop} {p : Int} (hp : zi p) (h : q (zb_B (0 ≤ p ∧ p < 2)) M) : zc_K g yX10_isSlot mX10_isSlot [zv_i p] M (zq_I q) := by
  refine zc_of (ls := [some (zv_i p)]) (by decide) rfl ⟨rfl, rfl⟩ (Nat.le_of_ble_eq_true rfl) rfl ?_
  refine zr_iload_n (pc := 0) dX10_isSlot_0 rfl rfl ?_
  refine zi_if_lt (pc := 1) (tgt := 13) dX10_isSlot_1 (by decide) (by omega) (fun h1 => ?_) (fun h1 => ?_)
  · refine zr_iconst (pc := 13) dX10_isSlot_13 ?_
    exact zr_zreturn (pc := 14) dX10_isSlot_14 rfl (by decide) (zq_eq h (zb_F (by omega)))
  · refine zr_iload_n (pc := 4) dX10_isSlot_4 rfl rfl ?_
    refine zr_iconst (pc := 5) dX10_isSlot_5 ?_
    refine zi_icmp_ge (pc := 6) (tgt := 13) dX10_isSlot_6 (by decide) (by omega) (by omega) (fun h6 => ?_) (fun h6 => ?_)
    · refine zr_iconst (pc := 13) dX10_isSlot_13 ?_
      exact zr_zreturn (pc := 14) dX10_isSlot_14 rfl (by decide) (zq_eq h (zb_F (by omega)))
    · refine zr_iconst (pc := 9) dX10_isSlot_9 ?_
      refine zr_goto (pc := 10) (tgt := 14) dX10_isSlot_10 (by decide) ?_
      exact zr_zreturn (pc := 14) dX10_isSlot_14 rfl (by decide) (zq_eq h (zb_T (by omega)))

set_option maxRecDepth 100000 in
set_option maxHeartbeats 4000000 in
theorem ct_X10_isLayerFigure {g : zt_G} {M : zm_M} {q : Int → zm_M → Prop} {p : Int} (hp : zi p) (h : q (zb_B (1 ≤ p ∧ p ≤ 6)) M) : zc_K g yX10_isLayerFigure mX10_isLayerFigure [zv_i p] M (zq_I q) := by
  refine zc_of (ls := [some (zv_i p)]) (by decide) rfl ⟨rfl, rfl⟩ (Nat.le_of_ble_eq_true rfl) rfl ?_
  refine zr_iload_n (pc := 0) dX10_isLayerFigure_0 rfl rfl ?_
  refine zr_iconst (pc := 1) dX10_isLayerFigure_1 ?_
  refine zi_icmp_lt (pc := 2) (tgt := 15) dX10_isLayerFigure_2 (by decide) (by omega) (by omega) (fun h2 => ?_) (fun h2 => ?_)
  · refine zr_iconst (pc := 15) dX10_isLayerFigure_15 ?_
    exact zr_zreturn (pc := 16) dX10_isLayerFigure_16 rfl (by decide) (zq_eq h (zb_F (by omega)))
  · refine zr_iload_n (pc := 5) dX10_isLayerFigure_5 rfl rfl ?_
    refine zr_bipush (pc := 6) dX10_isLayerFigure_6 (by decide) ?_
    refine zi_icmp_gt (pc := 8) (tgt := 15) dX10_isLayerFigure_8 (by decide) (by omega) (by omega) (fun h8 => ?_) (fun h8 => ?_)
    · refine zr_iconst (pc := 15) dX10_isLayerFigure_15 ?_
      exact zr_zreturn (pc := 16) dX10_isLayerFigure_16 rfl (by decide) (zq_eq h (zb_F (by omega)))
    · refine zr_iconst (pc := 11) dX10_isLayerFigure_11 ?_
      refine zr_goto (pc := 12) (tgt := 16) dX10_isLayerFigure_12 (by decide) ?_
      exact zr_zreturn (pc := 16) dX10_isLayerFigure_16 rfl (by decide) (zq_eq h (zb_T (by omega)))

set_option maxRecDepth 100000 in
set_option maxHeartbeats 4000000 in
theorem ct_X10_isFirstOrSecond {g : zt_G} {M : zm_M} {q : Int → zm_M → Prop} {p : Int} (hp : zi p) (h : q (zb_B (p = 0 ∨ p = 1)) M) : zc_K g yX10_isFirstOrSecond mX10_isFirstOrSecond [zv_i p] M (zq_I q) := by
  refine zc_of (ls := [some (zv_i p)]) (by decide) rfl ⟨rfl, rfl⟩ (Nat.le_of_ble_eq_true rfl) rfl ?_
  refine zr_iload_n (pc := 0) dX10_isFirstOrSecond_0 rfl rfl ?_
  refine zi_if_eq (pc := 1) (tgt := 9) dX10_isFirstOrSecond_1 (by decide) (by omega) (fun h1 => ?_) (fun h1 => ?_)
  · refine zr_iconst (pc := 9) dX10_isFirstOrSecond_9 ?_
    refine zr_goto (pc := 10) (tgt := 14) dX10_isFirstOrSecond_10 (by decide) ?_
    exact zr_zreturn (pc := 14) dX10_isFirstOrSecond_14 rfl (by decide) (zq_eq h (zb_T (by omega)))
  · refine zr_iload_n (pc := 4) dX10_isFirstOrSecond_4 rfl rfl ?_
    refine zr_iconst (pc := 5) dX10_isFirstOrSecond_5 ?_
    refine zi_icmp_ne (pc := 6) (tgt := 13) dX10_isFirstOrSecond_6 (by decide) (by omega) (by omega) (fun h6 => ?_) (fun h6 => ?_)
    · refine zr_iconst (pc := 13) dX10_isFirstOrSecond_13 ?_
      exact zr_zreturn (pc := 14) dX10_isFirstOrSecond_14 rfl (by decide) (zq_eq h (zb_F (by omega)))
    · refine zr_iconst (pc := 9) dX10_isFirstOrSecond_9 ?_
      refine zr_goto (pc := 10) (tgt := 14) dX10_isFirstOrSecond_10 (by decide) ?_
      exact zr_zreturn (pc := 14) dX10_isFirstOrSecond_14 rfl (by decide) (zq_eq h (zb_T (by omega)))

set_option maxRecDepth 100000 in
set_option maxHeartbeats 4000000 in
theorem ct_X10_appetiteOf {g : zt_G} {M : zm_M} {q : Int → zm_M → Prop} {p : Int} (hp : zi p) (h : q (app p) M) : zc_K g yX10_appetiteOf mX10_appetiteOf [zv_i p] M (zq_I q) := by
  refine zc_of (ls := [some (zv_i p)]) (by decide) rfl ⟨rfl, rfl⟩ (Nat.le_of_ble_eq_true rfl) rfl ?_
  refine zr_iload_n (pc := 0) dX10_appetiteOf_0 rfl rfl ?_
  rcases (by omega : p = 1 ∨ p = 2 ∨ (¬ p = 1 ∧ ¬ p = 2)) with hsw1 | hsw1 | hsw1
  · refine zr_look (pc := 1) (tgt := 28) (off := 27) dX10_appetiteOf_1 (by decide +kernel) (by rw [hsw1]; decide +kernel) (by decide) ?_
    refine zr_iconst (pc := 28) dX10_appetiteOf_28 ?_
    exact zr_ireturn (pc := 29) dX10_appetiteOf_29 rfl (zq_eq h (by unfold app; rw [if_pos hsw1]))
  · refine zr_look (pc := 1) (tgt := 30) (off := 29) dX10_appetiteOf_1 (by decide +kernel) (by rw [hsw1]; decide +kernel) (by decide) ?_
    refine zr_bipush (pc := 30) dX10_appetiteOf_30 (by decide) ?_
    exact zr_ireturn (pc := 32) dX10_appetiteOf_32 rfl (zq_eq h (by unfold app; rw [if_neg (by omega), if_pos hsw1]))
  · refine zr_look (pc := 1) (tgt := 33) (off := 32) dX10_appetiteOf_1 (by decide +kernel) (by rw [zw_id (by omega) (by omega)]; show Op.lookupswitch.offset [(1, 27), (2, 29)] 32 _ = _; rw [Op.lookupswitch.offset_cons, if_neg (by omega)]; rw [Op.lookupswitch.offset_cons, if_neg (by omega)]; rfl) (by decide) ?_
    refine zr_iconst (pc := 33) dX10_appetiteOf_33 ?_
    exact zr_ireturn (pc := 34) dX10_appetiteOf_34 rfl (zq_eq h (by unfold app; rw [if_neg hsw1.1, if_neg hsw1.2]))

def on6 (s : Int) : Int := fo (fun k n => n + (if bt s k = true then 1 else 0)) 0 6
def bcx (a : Int) : Int := zb_and (((zb_and ((zb_and (a - zb_and (zb_ushr a 1) 1431655765) 858993459 + zb_and (zb_ushr (a - zb_and (zb_ushr a 1) 1431655765) 2) 858993459) + zb_ushr (zb_and (a - zb_and (zb_ushr a 1) 1431655765) 858993459 + zb_and (zb_ushr (a - zb_and (zb_ushr a 1) 1431655765) 2) 858993459) 4) 252645135) + zb_ushr (zb_and ((zb_and (a - zb_and (zb_ushr a 1) 1431655765) 858993459 + zb_and (zb_ushr (a - zb_and (zb_ushr a 1) 1431655765) 2) 858993459) + zb_ushr (zb_and (a - zb_and (zb_ushr a 1) 1431655765) 858993459 + zb_and (zb_ushr (a - zb_and (zb_ushr a 1) 1431655765) 2) 858993459) 4) 252645135) 8) + zb_ushr ((zb_and ((zb_and (a - zb_and (zb_ushr a 1) 1431655765) 858993459 + zb_and (zb_ushr (a - zb_and (zb_ushr a 1) 1431655765) 2) 858993459) + zb_ushr (zb_and (a - zb_and (zb_ushr a 1) 1431655765) 858993459 + zb_and (zb_ushr (a - zb_and (zb_ushr a 1) 1431655765) 2) 858993459) 4) 252645135) + zb_ushr (zb_and ((zb_and (a - zb_and (zb_ushr a 1) 1431655765) 858993459 + zb_and (zb_ushr (a - zb_and (zb_ushr a 1) 1431655765) 2) 858993459) + zb_ushr (zb_and (a - zb_and (zb_ushr a 1) 1431655765) 858993459 + zb_and (zb_ushr (a - zb_and (zb_ushr a 1) 1431655765) 2) 858993459) 4) 252645135) 8) 16) 63
theorem bcx_ok : ∀ s : Nat, s < 64 → bcx (s : Int) = on6 (s : Int) := by decide +kernel
theorem on6_in : ∀ s : Nat, s < 64 → 0 ≤ on6 (s : Int) ∧ on6 (s : Int) ≤ 6 := by decide +kernel
theorem on6_i {s : Int} (h : 0 ≤ s ∧ s < 64) : 0 ≤ on6 s ∧ on6 s ≤ 6 := by
  obtain ⟨s, rfl⟩ := Int.eq_ofNat_of_zero_le h.1
  exact on6_in s (by omega)
set_option maxRecDepth 100000 in
set_option maxHeartbeats 4000000 in
theorem ct_bitCount {g : zt_G} {M : zm_M} {q : Int → zm_M → Prop} {a : Int} (ha : 0 ≤ a ∧ a < 64) (h : q (on6 a) M) : zc_K g yJ6_bitCount_0f7a4 mJ6_bitCount_0f7a4 [zv_i a] M (zq_I q) := by
  refine zc_of (ls := [some (zv_i a)]) (by decide) rfl ⟨rfl, rfl⟩ (Nat.le_of_ble_eq_true rfl) rfl ?_
  refine zr_iload_n (pc := 0) dJ6_bitCount_0f7a4_0 rfl rfl ?_
  refine zr_iload_n (pc := 1) dJ6_bitCount_0f7a4_1 rfl rfl ?_
  refine zr_iconst (pc := 2) dJ6_bitCount_0f7a4_2 ?_
  refine zr_iushr (pc := 3) dJ6_bitCount_0f7a4_3 ?_
  refine zr_ldcw (pc := 4) (z := 1431655765) rfl kJ6_265 (by decide +kernel) dJ6_bitCount_0f7a4_4 ?_
  refine zr_iand (pc := 7) dJ6_bitCount_0f7a4_7 ?_
  refine zr_isub (pc := 8) dJ6_bitCount_0f7a4_8 ?_
  refine zr_istore_n (pc := 9) dJ6_bitCount_0f7a4_9 rfl (Nat.le_of_ble_eq_true rfl) rfl ?_
  refine zr_iload_n (pc := 10) dJ6_bitCount_0f7a4_10 rfl rfl ?_
  refine zr_ldcw (pc := 11) (z := 858993459) rfl kJ6_266 (by decide +kernel) dJ6_bitCount_0f7a4_11 ?_
  refine zr_iand (pc := 14) dJ6_bitCount_0f7a4_14 ?_
  refine zr_iload_n (pc := 15) dJ6_bitCount_0f7a4_15 rfl rfl ?_
  refine zr_iconst (pc := 16) dJ6_bitCount_0f7a4_16 ?_
  refine zr_iushr (pc := 17) dJ6_bitCount_0f7a4_17 ?_
  refine zr_ldcw (pc := 18) (z := 858993459) rfl kJ6_266 (by decide +kernel) dJ6_bitCount_0f7a4_18 ?_
  refine zr_iand (pc := 21) dJ6_bitCount_0f7a4_21 ?_
  refine zr_iadd (pc := 22) dJ6_bitCount_0f7a4_22 ?_
  refine zr_istore_n (pc := 23) dJ6_bitCount_0f7a4_23 rfl (Nat.le_of_ble_eq_true rfl) rfl ?_
  refine zr_iload_n (pc := 24) dJ6_bitCount_0f7a4_24 rfl rfl ?_
  refine zr_iload_n (pc := 25) dJ6_bitCount_0f7a4_25 rfl rfl ?_
  refine zr_iconst (pc := 26) dJ6_bitCount_0f7a4_26 ?_
  refine zr_iushr (pc := 27) dJ6_bitCount_0f7a4_27 ?_
  refine zr_iadd (pc := 28) dJ6_bitCount_0f7a4_28 ?_
  refine zr_ldcw (pc := 29) (z := 252645135) rfl kJ6_267 (by decide +kernel) dJ6_bitCount_0f7a4_29 ?_
  refine zr_iand (pc := 32) dJ6_bitCount_0f7a4_32 ?_
  refine zr_istore_n (pc := 33) dJ6_bitCount_0f7a4_33 rfl (Nat.le_of_ble_eq_true rfl) rfl ?_
  refine zr_iload_n (pc := 34) dJ6_bitCount_0f7a4_34 rfl rfl ?_
  refine zr_iload_n (pc := 35) dJ6_bitCount_0f7a4_35 rfl rfl ?_
  refine zr_bipush (pc := 36) dJ6_bitCount_0f7a4_36 (by decide) ?_
  refine zr_iushr (pc := 38) dJ6_bitCount_0f7a4_38 ?_
  refine zr_iadd (pc := 39) dJ6_bitCount_0f7a4_39 ?_
  refine zr_istore_n (pc := 40) dJ6_bitCount_0f7a4_40 rfl (Nat.le_of_ble_eq_true rfl) rfl ?_
  refine zr_iload_n (pc := 41) dJ6_bitCount_0f7a4_41 rfl rfl ?_
  refine zr_iload_n (pc := 42) dJ6_bitCount_0f7a4_42 rfl rfl ?_
  refine zr_bipush (pc := 43) dJ6_bitCount_0f7a4_43 (by decide) ?_
  refine zr_iushr (pc := 45) dJ6_bitCount_0f7a4_45 ?_
  refine zr_iadd (pc := 46) dJ6_bitCount_0f7a4_46 ?_
  refine zr_istore_n (pc := 47) dJ6_bitCount_0f7a4_47 rfl (Nat.le_of_ble_eq_true rfl) rfl ?_
  refine zr_iload_n (pc := 48) dJ6_bitCount_0f7a4_48 rfl rfl ?_
  refine zr_bipush (pc := 49) dJ6_bitCount_0f7a4_49 (by decide) ?_
  refine zr_iand (pc := 51) dJ6_bitCount_0f7a4_51 ?_
  exact zr_ireturn (pc := 52) dJ6_bitCount_0f7a4_52 rfl (zq_eq h (show bcx a = on6 a by obtain ⟨s, rfl⟩ := Int.eq_ofNat_of_zero_le ha.1; exact bcx_ok s (by omega)))

set_option maxRecDepth 100000 in
set_option maxHeartbeats 4000000 in
theorem ct_X1_has {g : zt_G} {M : zm_M} {c : Nat} {q : Int → zm_M → Prop} (hc : zp_camp c) (hw : CW (cvX M c)) {t : Int} (ht : zi t) (h : q (zb_B (cHas (cvX M c) t)) M) : zc_K g yX1_has mX1_has [zv_r c, zv_i t] M (zq_I q) := by
  refine zc_of (ls := [some (zv_r c), some (zv_i t)]) (by decide) rfl ⟨rfl, rfl⟩ (Nat.le_of_ble_eq_true rfl) rfl ?_
  have hw1 := wXt hw
  refine zr_iload_n (pc := 0) dX1_has_0 rfl rfl ?_
  refine zi_if_lt (pc := 1) (tgt := 16) dX1_has_1 (by decide) (by omega) (fun h1 => ?_) (fun h1 => ?_)
  · refine zr_iconst (pc := 16) dX1_has_16 ?_
    exact zr_zreturn (pc := 17) dX1_has_17 rfl (by decide) (zq_eq h (zb_F (fun x => by have h8 : t < M c 5 := x.2; omega)))
  · refine zr_iload_n (pc := 4) dX1_has_4 rfl rfl ?_
    refine zr_aload_n (pc := 5) dX1_has_5 rfl rfl ?_
    refine zr_getI (pc := 6) (z := 5) fX1_28 hc.1 rfl rfl rfl dX1_has_6 ?_
    refine zi_icmp_ge (pc := 9) (tgt := 16) dX1_has_9 (by decide) (by omega) (by omega) (fun h9 => ?_) (fun h9 => ?_)
    · refine zr_iconst (pc := 16) dX1_has_16 ?_
      exact zr_zreturn (pc := 17) dX1_has_17 rfl (by decide) (zq_eq h (zb_F (fun x => by have h8 : t < M c 5 := x.2; omega)))
    · refine zr_iconst (pc := 12) dX1_has_12 ?_
      refine zr_goto (pc := 13) (tgt := 17) dX1_has_13 (by decide) ?_
      exact zr_zreturn (pc := 17) dX1_has_17 rfl (by decide) (zq_eq h (zb_T ⟨h1, h9⟩))

set_option maxRecDepth 100000 in
set_option maxHeartbeats 4000000 in
theorem ct_X1_isHummock {g : zt_G} {M : zm_M} {c : Nat} {q : Int → zm_M → Prop} (hc : zp_camp c) (hw : CW (cvX M c)) {t : Int} (ht : 0 ≤ t ∧ t < M c 5) (h : q (zb_B (9 ≤ ch (cvX M c) t)) M) : zc_K g yX1_isHummock mX1_isHummock [zv_r c, zv_i t] M (zq_I q) := by
  refine zc_of (ls := [some (zv_r c), some (zv_i t)]) (by decide) rfl ⟨rfl, rfl⟩ (Nat.le_of_ble_eq_true rfl) rfl ?_
  have hw0 := wXt hw
  have hw1 := wX hw ht
  have hww := wXw hw
  rw [vX_h ht] at h
  refine zr_aload_n (pc := 0) dX1_isHummock_0 rfl rfl ?_
  refine zr_getR (pc := 1) fX1_21 hc.1 rfl rfl dX1_isHummock_1 ?_
  refine zr_iload_n (pc := 4) dX1_isHummock_4 rfl rfl ?_
  refine zr_iaload (pc := 5) hc.2.2.2.2 (by omega) dX1_isHummock_5 ?_
  refine zr_bipush (pc := 6) dX1_isHummock_6 (by decide) ?_
  refine zi_icmp_lt (pc := 8) (tgt := 15) dX1_isHummock_8 (by decide) (by omega) (by omega) (fun h8 => ?_) (fun h8 => ?_)
  · refine zr_iconst (pc := 15) dX1_isHummock_15 ?_
    exact zr_zreturn (pc := 16) dX1_isHummock_16 rfl (by decide) (zq_eq h (zb_F (by omega)))
  · refine zr_iconst (pc := 11) dX1_isHummock_11 ?_
    refine zr_goto (pc := 12) (tgt := 16) dX1_isHummock_12 (by decide) ?_
    exact zr_zreturn (pc := 16) dX1_isHummock_16 rfl (by decide) (zq_eq h (zb_T (by omega)))

set_option maxRecDepth 100000 in
set_option maxHeartbeats 4000000 in
theorem ct_X1_speedOf {g : zt_G} {M : zm_M} {c : Nat} {q : Int → zm_M → Prop} (hc : zp_camp c) (hw : CW (cvX M c)) {t : Int} (ht : 0 ≤ t ∧ t < M c 5) (h : q (3 - ch (cvX M c) t / 3) M) : zc_K g yX1_speedOf mX1_speedOf [zv_r c, zv_i t] M (zq_I q) := by
  refine zc_of (ls := [some (zv_r c), some (zv_i t)]) (by decide) rfl ⟨rfl, rfl⟩ (Nat.le_of_ble_eq_true rfl) rfl ?_
  have hw0 := wXt hw
  have hw1 := wX hw ht
  have hww := wXw hw
  rw [vX_h ht] at h
  refine zr_iconst (pc := 0) dX1_speedOf_0 ?_
  refine zr_aload_n (pc := 1) dX1_speedOf_1 rfl rfl ?_
  refine zr_getR (pc := 2) fX1_21 hc.1 rfl rfl dX1_speedOf_2 ?_
  refine zr_iload_n (pc := 5) dX1_speedOf_5 rfl rfl ?_
  refine zr_iaload (pc := 6) hc.2.2.2.2 (by omega) dX1_speedOf_6 ?_
  refine zr_iconst (pc := 7) dX1_speedOf_7 ?_
  refine zr_idiv (pc := 8) (by omega) (by omega) dX1_speedOf_8 ?_
  refine zr_isub (pc := 9) dX1_speedOf_9 ?_
  exact zr_ireturn (pc := 10) dX1_speedOf_10 rfl (zq_eq h rfl)

set_option maxRecDepth 100000 in
set_option maxHeartbeats 4000000 in
theorem ct_X1_hasWalked {g : zt_G} {M : zm_M} {c : Nat} {q : Int → zm_M → Prop} (hc : zp_camp c) (hw : CW (cvX M c)) {t : Int} (ht : 0 ≤ t ∧ t < M c 5) (h : q (zb_B (bt (cw (cvX M c)) t = true)) M) : zc_K g yX1_hasWalked mX1_hasWalked [zv_r c, zv_i t] M (zq_I q) := by
  refine zc_of (ls := [some (zv_r c), some (zv_i t)]) (by decide) rfl ⟨rfl, rfl⟩ (Nat.le_of_ble_eq_true rfl) rfl ?_
  have hw0 := wXt hw
  have hw1 := wX hw ht
  have hww := wXw hw
  have hb := and4 hww ⟨ht.1, show t < 4 by omega⟩
  refine zr_aload_n (pc := 0) dX1_hasWalked_0 rfl rfl ?_
  refine zr_getI (pc := 1) (z := 4) fX1_24 hc.1 rfl rfl rfl dX1_hasWalked_1 ?_
  refine zr_iconst (pc := 4) dX1_hasWalked_4 ?_
  refine zr_iload_n (pc := 5) dX1_hasWalked_5 rfl rfl ?_
  refine zr_ishl (pc := 6) dX1_hasWalked_6 ?_
  refine zr_iand (pc := 7) dX1_hasWalked_7 ?_
  refine zi_if_eq (pc := 8) (tgt := 15) dX1_hasWalked_8 (by decide) (by omega) (fun h8 => ?_) (fun h8 => ?_)
  · refine zr_iconst (pc := 15) dX1_hasWalked_15 ?_
    exact zr_zreturn (pc := 16) dX1_hasWalked_16 rfl (by decide) (zq_eq h (zb_F (fun x => by have h9 : bt (M c 4) t = true := x; rw [hb.1.mp h8] at h9; cases h9)))
  · refine zr_iconst (pc := 11) dX1_hasWalked_11 ?_
    refine zr_goto (pc := 12) (tgt := 16) dX1_hasWalked_12 (by decide) ?_
    exact zr_zreturn (pc := 16) dX1_hasWalked_16 rfl (by decide) (zq_eq h (zb_T (by cases hx : bt (M c 4) t with | true => exact hx | false => exact absurd (hb.1.mpr hx) h8)))

def humB (C : Cm) : Int := fo (fun t b => if 9 ≤ ch C t then zb_or b (zb_shl 1 t) else b) 0 (ct C).toNat
def atB (C : Cm) (p : Int) : Int := fo (fun t b => if cp C t = p then zb_or b (zb_shl 1 t) else b) 0 (ct C).toNat
def anyB (C : Cm) : Int := fo (fun t b => zb_or b (cn C t)) 0 (ct C).toNat
def allN (C : Cm) : Int := fo (fun t b => b + on6 (cn C t)) 0 (ct C).toNat
def howN (C : Cm) (l : Int) : Int := fo (fun t b => if bt (cn C t) l = true then b + 1 else b) 0 (ct C).toNat
theorem or4 : ∀ s : Nat, s < 16 → ∀ l : Nat, l < 4 → 0 ≤ zb_or (s : Int) (zb_shl 1 (l : Int)) ∧ zb_or (s : Int) (zb_shl 1 (l : Int)) < 16 := by decide +kernel
theorem humB_in {C : Cm} (h : CW C) : 0 ≤ humB C ∧ humB C < 16 := by
  unfold humB
  refine fo_p (P := fun b : Int => 0 ≤ b ∧ b < 16) ⟨by decide, by decide⟩ (fun i b h0 h1 hb => ?_)
  have := h.1
  show 0 ≤ (if 9 ≤ ch C i then zb_or b (zb_shl 1 i) else b) ∧ (if 9 ≤ ch C i then zb_or b (zb_shl 1 i) else b) < (16 : Int)
  split
  · obtain ⟨b, rfl⟩ := Int.eq_ofNat_of_zero_le hb.1
    obtain ⟨i, rfl⟩ := Int.eq_ofNat_of_zero_le h0
    exact or4 b (by omega) i (by omega)
  · exact hb
set_option maxRecDepth 100000 in
set_option maxHeartbeats 4000000 in
theorem lp_X1_hummocks {g : zt_G} {M : zm_M} {c : Nat} {q : Int → zm_M → Prop} (hc : zp_camp c) (hw : CW (cvX M c)) (h : q (humB (cvX M c)) M) : ∀ (nn : Nat) (b k : Int), (M c 5 - k).toNat = nn → 0 ≤ k → k ≤ M c 5 → b = fo (fun t b => if 9 ≤ ch (cvX M c) t then zb_or b (zb_shl 1 t) else b) 0 k.toNat → zc_Z g mX1_hummocks 4 [some (zv_r c), some (zv_i b), some (zv_i k)] [] M (zq_I q) := by
  intro nn
  induction nn using Nat.strongRecOn with
  | ind nn ih =>
    intro b k hn h0 h1 hb
    have hw0 := wXt hw
    refine zr_iload_n (pc := 4) dX1_hummocks_4 rfl rfl ?_
    refine zr_aload_n (pc := 5) dX1_hummocks_5 rfl rfl ?_
    refine zr_getI (pc := 6) (z := 5) fX1_28 hc.1 rfl rfl rfl dX1_hummocks_6 ?_
    refine zi_icmp_ge (pc := 9) (tgt := 32) dX1_hummocks_9 (by decide) (by omega) (by omega) (fun h9 => ?_) (fun h9 => ?_)
    · refine zr_iload_n (pc := 32) dX1_hummocks_32 rfl rfl ?_
      exact zr_ireturn (pc := 33) dX1_hummocks_33 rfl (zq_eq h (by unfold humB; rw [hb, show k = M c 5 by omega]; rfl))
    · have hk : 0 ≤ k ∧ k < M c 5 := ⟨h0, h9⟩
      have hw1 := wX hw hk
      refine zr_aload_n (pc := 12) dX1_hummocks_12 rfl rfl ?_
      refine zr_iload_n (pc := 13) dX1_hummocks_13 rfl rfl ?_
      refine zr_inv1I (pc := 14) rfl sX1_34 hc.1 rfl rfl rfl dX1_hummocks_14 ?_
      refine ct_X1_isHummock hc hw hk ?_
      refine zr_ifb_eq (pc := 17) (tgt := 26) dX1_hummocks_17 (by decide) (fun h17 => ?_) (fun h17 => ?_)
      · refine zr_iinc (pc := 26) dX1_hummocks_26 rfl (Nat.le_of_ble_eq_true rfl) rfl ?_
        refine zr_goto (pc := 29) (tgt := 4) dX1_hummocks_29 (by decide) ?_
        exact ih _ (by omega) _ _ rfl (by omega) (by omega) (by rw [fo_s h0, ← hb, if_neg h17])
      · refine zr_iload_n (pc := 20) dX1_hummocks_20 rfl rfl ?_
        refine zr_iconst (pc := 21) dX1_hummocks_21 ?_
        refine zr_iload_n (pc := 22) dX1_hummocks_22 rfl rfl ?_
        refine zr_ishl (pc := 23) dX1_hummocks_23 ?_
        refine zr_ior (pc := 24) dX1_hummocks_24 ?_
        refine zr_istore_n (pc := 25) dX1_hummocks_25 rfl (Nat.le_of_ble_eq_true rfl) rfl ?_
        refine zr_iinc (pc := 26) dX1_hummocks_26 rfl (Nat.le_of_ble_eq_true rfl) rfl ?_
        refine zr_goto (pc := 29) (tgt := 4) dX1_hummocks_29 (by decide) ?_
        exact ih _ (by omega) _ _ rfl (by omega) (by omega) (by rw [fo_s h0, ← hb, if_pos h17])

set_option maxRecDepth 100000 in
set_option maxHeartbeats 4000000 in
theorem ct_X1_hummocks {g : zt_G} {M : zm_M} {c : Nat} {q : Int → zm_M → Prop} (hc : zp_camp c) (hw : CW (cvX M c)) (h : q (humB (cvX M c)) M) : zc_K g yX1_hummocks mX1_hummocks [zv_r c] M (zq_I q) := by
  refine zc_of (ls := [some (zv_r c)]) (by decide) rfl ⟨rfl, rfl⟩ (Nat.le_of_ble_eq_true rfl) rfl ?_
  have hw0 := wXt hw
  refine zr_iconst (pc := 0) dX1_hummocks_0 ?_
  refine zr_istore_n (pc := 1) dX1_hummocks_1 rfl (Nat.le_of_ble_eq_true rfl) rfl ?_
  refine zr_iconst (pc := 2) dX1_hummocks_2 ?_
  refine zr_istore_n (pc := 3) dX1_hummocks_3 rfl (Nat.le_of_ble_eq_true rfl) rfl ?_
  exact lp_X1_hummocks hc hw h _ _ _ rfl (by omega) (by omega) rfl

set_option maxRecDepth 100000 in
set_option maxHeartbeats 4000000 in
theorem lp_X1_trampsAt {g : zt_G} {M : zm_M} {c : Nat} {q : Int → zm_M → Prop} (hc : zp_camp c) (hw : CW (cvX M c)) {p : Int} (hx : zi p) (h : q (atB (cvX M c) p) M) : ∀ (nn : Nat) (b k : Int), (M c 5 - k).toNat = nn → 0 ≤ k → k ≤ M c 5 → b = fo (fun t b => if cp (cvX M c) t = p then zb_or b (zb_shl 1 t) else b) 0 k.toNat → zc_Z g mX1_trampsAt 4 [some (zv_r c), some (zv_i p), some (zv_i b), some (zv_i k)] [] M (zq_I q) := by
  intro nn
  induction nn using Nat.strongRecOn with
  | ind nn ih =>
    intro b k hn h0 h1 hb
    have hw0 := wXt hw
    refine zr_iload_n (pc := 4) dX1_trampsAt_4 rfl rfl ?_
    refine zr_aload_n (pc := 5) dX1_trampsAt_5 rfl rfl ?_
    refine zr_getI (pc := 6) (z := 5) fX1_28 hc.1 rfl rfl rfl dX1_trampsAt_6 ?_
    refine zi_icmp_ge (pc := 9) (tgt := 34) dX1_trampsAt_9 (by decide) (by omega) (by omega) (fun h9 => ?_) (fun h9 => ?_)
    · refine zr_iload_n (pc := 34) dX1_trampsAt_34 rfl rfl ?_
      exact zr_ireturn (pc := 35) dX1_trampsAt_35 rfl (zq_eq h (by unfold atB; rw [hb, show k = M c 5 by omega]; rfl))
    · have hk : 0 ≤ k ∧ k < M c 5 := ⟨h0, h9⟩
      have hw1 := wX hw hk
      refine zr_aload_n (pc := 12) dX1_trampsAt_12 rfl rfl ?_
      refine zr_getR (pc := 13) fX1_9 hc.1 rfl rfl dX1_trampsAt_13 ?_
      refine zr_iload_n (pc := 16) dX1_trampsAt_16 rfl rfl ?_
      refine zr_iaload (pc := 17) hc.2.1 (by omega) dX1_trampsAt_17 ?_
      refine zr_iload_n (pc := 18) dX1_trampsAt_18 rfl rfl ?_
      refine zi_icmp_ne (pc := 19) (tgt := 28) dX1_trampsAt_19 (by decide) (by omega) (by omega) (fun h19 => ?_) (fun h19 => ?_)
      · refine zr_iinc (pc := 28) dX1_trampsAt_28 rfl (Nat.le_of_ble_eq_true rfl) rfl ?_
        refine zr_goto (pc := 31) (tgt := 4) dX1_trampsAt_31 (by decide) ?_
        exact ih _ (by omega) _ _ rfl (by omega) (by omega) (by rw [fo_s h0, ← hb, vX_p hk, if_neg h19])
      · refine zr_iload_n (pc := 22) dX1_trampsAt_22 rfl rfl ?_
        refine zr_iconst (pc := 23) dX1_trampsAt_23 ?_
        refine zr_iload_n (pc := 24) dX1_trampsAt_24 rfl rfl ?_
        refine zr_ishl (pc := 25) dX1_trampsAt_25 ?_
        refine zr_ior (pc := 26) dX1_trampsAt_26 ?_
        refine zr_istore_n (pc := 27) dX1_trampsAt_27 rfl (Nat.le_of_ble_eq_true rfl) rfl ?_
        refine zr_iinc (pc := 28) dX1_trampsAt_28 rfl (Nat.le_of_ble_eq_true rfl) rfl ?_
        refine zr_goto (pc := 31) (tgt := 4) dX1_trampsAt_31 (by decide) ?_
        exact ih _ (by omega) _ _ rfl (by omega) (by omega) (by rw [fo_s h0, ← hb, vX_p hk, if_pos h19])

set_option maxRecDepth 100000 in
set_option maxHeartbeats 4000000 in
theorem ct_X1_trampsAt {g : zt_G} {M : zm_M} {c : Nat} {q : Int → zm_M → Prop} (hc : zp_camp c) (hw : CW (cvX M c)) {p : Int} (hx : zi p) (h : q (atB (cvX M c) p) M) : zc_K g yX1_trampsAt mX1_trampsAt [zv_r c, zv_i p] M (zq_I q) := by
  refine zc_of (ls := [some (zv_r c), some (zv_i p)]) (by decide) rfl ⟨rfl, rfl⟩ (Nat.le_of_ble_eq_true rfl) rfl ?_
  have hw0 := wXt hw
  refine zr_iconst (pc := 0) dX1_trampsAt_0 ?_
  refine zr_istore_n (pc := 1) dX1_trampsAt_1 rfl (Nat.le_of_ble_eq_true rfl) rfl ?_
  refine zr_iconst (pc := 2) dX1_trampsAt_2 ?_
  refine zr_istore_n (pc := 3) dX1_trampsAt_3 rfl (Nat.le_of_ble_eq_true rfl) rfl ?_
  exact lp_X1_trampsAt hc hw hx h _ _ _ rfl (by omega) (by omega) rfl

set_option maxRecDepth 100000 in
set_option maxHeartbeats 4000000 in
theorem lp_X1_knownAt {g : zt_G} {M : zm_M} {c : Nat} {q : Int → zm_M → Prop} (hc : zp_camp c) (hw : CW (cvX M c)) {p : Int} (hx : zi p) (h : q (kAt (cvX M c) p) M) : ∀ (nn : Nat) (b k : Int), (M c 5 - k).toNat = nn → 0 ≤ k → k ≤ M c 5 → b = fo (fun t b => if cp (cvX M c) t = p then zb_or b (cn (cvX M c) t) else b) 0 k.toNat → zc_Z g mX1_knownAt 4 [some (zv_r c), some (zv_i p), some (zv_i b), some (zv_i k)] [] M (zq_I q) := by
  intro nn
  induction nn using Nat.strongRecOn with
  | ind nn ih =>
    intro b k hn h0 h1 hb
    have hw0 := wXt hw
    refine zr_iload_n (pc := 4) dX1_knownAt_4 rfl rfl ?_
    refine zr_aload_n (pc := 5) dX1_knownAt_5 rfl rfl ?_
    refine zr_getI (pc := 6) (z := 5) fX1_28 hc.1 rfl rfl rfl dX1_knownAt_6 ?_
    refine zi_icmp_ge (pc := 9) (tgt := 37) dX1_knownAt_9 (by decide) (by omega) (by omega) (fun h9 => ?_) (fun h9 => ?_)
    · refine zr_iload_n (pc := 37) dX1_knownAt_37 rfl rfl ?_
      exact zr_ireturn (pc := 38) dX1_knownAt_38 rfl (zq_eq h (by unfold kAt; rw [hb, show k = M c 5 by omega]; rfl))
    · have hk : 0 ≤ k ∧ k < M c 5 := ⟨h0, h9⟩
      have hw1 := wX hw hk
      refine zr_aload_n (pc := 12) dX1_knownAt_12 rfl rfl ?_
      refine zr_getR (pc := 13) fX1_9 hc.1 rfl rfl dX1_knownAt_13 ?_
      refine zr_iload_n (pc := 16) dX1_knownAt_16 rfl rfl ?_
      refine zr_iaload (pc := 17) hc.2.1 (by omega) dX1_knownAt_17 ?_
      refine zr_iload_n (pc := 18) dX1_knownAt_18 rfl rfl ?_
      refine zi_icmp_ne (pc := 19) (tgt := 31) dX1_knownAt_19 (by decide) (by omega) (by omega) (fun h19 => ?_) (fun h19 => ?_)
      · refine zr_iinc (pc := 31) dX1_knownAt_31 rfl (Nat.le_of_ble_eq_true rfl) rfl ?_
        refine zr_goto (pc := 34) (tgt := 4) dX1_knownAt_34 (by decide) ?_
        exact ih _ (by omega) _ _ rfl (by omega) (by omega) (by rw [fo_s h0, ← hb, vX_p hk, if_neg h19])
      · refine zr_iload_n (pc := 22) dX1_knownAt_22 rfl rfl ?_
        refine zr_aload_n (pc := 23) dX1_knownAt_23 rfl rfl ?_
        refine zr_getR (pc := 24) fX1_18 hc.1 rfl rfl dX1_knownAt_24 ?_
        refine zr_iload_n (pc := 27) dX1_knownAt_27 rfl rfl ?_
        refine zr_iaload (pc := 28) hc.2.2.2.1 (by omega) dX1_knownAt_28 ?_
        refine zr_ior (pc := 29) dX1_knownAt_29 ?_
        refine zr_istore_n (pc := 30) dX1_knownAt_30 rfl (Nat.le_of_ble_eq_true rfl) rfl ?_
        refine zr_iinc (pc := 31) dX1_knownAt_31 rfl (Nat.le_of_ble_eq_true rfl) rfl ?_
        refine zr_goto (pc := 34) (tgt := 4) dX1_knownAt_34 (by decide) ?_
        exact ih _ (by omega) _ _ rfl (by omega) (by omega) (by rw [fo_s h0, ← hb, vX_p hk, if_pos h19, vX_n hk])

set_option maxRecDepth 100000 in
set_option maxHeartbeats 4000000 in
theorem ct_X1_knownAt {g : zt_G} {M : zm_M} {c : Nat} {q : Int → zm_M → Prop} (hc : zp_camp c) (hw : CW (cvX M c)) {p : Int} (hx : zi p) (h : q (kAt (cvX M c) p) M) : zc_K g yX1_knownAt mX1_knownAt [zv_r c, zv_i p] M (zq_I q) := by
  refine zc_of (ls := [some (zv_r c), some (zv_i p)]) (by decide) rfl ⟨rfl, rfl⟩ (Nat.le_of_ble_eq_true rfl) rfl ?_
  have hw0 := wXt hw
  refine zr_iconst (pc := 0) dX1_knownAt_0 ?_
  refine zr_istore_n (pc := 1) dX1_knownAt_1 rfl (Nat.le_of_ble_eq_true rfl) rfl ?_
  refine zr_iconst (pc := 2) dX1_knownAt_2 ?_
  refine zr_istore_n (pc := 3) dX1_knownAt_3 rfl (Nat.le_of_ble_eq_true rfl) rfl ?_
  exact lp_X1_knownAt hc hw hx h _ _ _ rfl (by omega) (by omega) rfl

set_option maxRecDepth 100000 in
set_option maxHeartbeats 4000000 in
theorem lp_X1_knownByAny {g : zt_G} {M : zm_M} {c : Nat} {q : Int → zm_M → Prop} (hc : zp_camp c) (hw : CW (cvX M c)) (h : q (anyB (cvX M c)) M) : ∀ (nn : Nat) (b k : Int), (M c 5 - k).toNat = nn → 0 ≤ k → k ≤ M c 5 → b = fo (fun t b => zb_or b (cn (cvX M c) t)) 0 k.toNat → zc_Z g mX1_knownByAny 4 [some (zv_r c), some (zv_i b), some (zv_i k)] [] M (zq_I q) := by
  intro nn
  induction nn using Nat.strongRecOn with
  | ind nn ih =>
    intro b k hn h0 h1 hb
    have hw0 := wXt hw
    refine zr_iload_n (pc := 4) dX1_knownByAny_4 rfl rfl ?_
    refine zr_aload_n (pc := 5) dX1_knownByAny_5 rfl rfl ?_
    refine zr_getI (pc := 6) (z := 5) fX1_28 hc.1 rfl rfl rfl dX1_knownByAny_6 ?_
    refine zi_icmp_ge (pc := 9) (tgt := 27) dX1_knownByAny_9 (by decide) (by omega) (by omega) (fun h9 => ?_) (fun h9 => ?_)
    · refine zr_iload_n (pc := 27) dX1_knownByAny_27 rfl rfl ?_
      exact zr_ireturn (pc := 28) dX1_knownByAny_28 rfl (zq_eq h (by unfold anyB; rw [hb, show k = M c 5 by omega]; rfl))
    · have hk : 0 ≤ k ∧ k < M c 5 := ⟨h0, h9⟩
      have hw1 := wX hw hk
      refine zr_iload_n (pc := 12) dX1_knownByAny_12 rfl rfl ?_
      refine zr_aload_n (pc := 13) dX1_knownByAny_13 rfl rfl ?_
      refine zr_getR (pc := 14) fX1_18 hc.1 rfl rfl dX1_knownByAny_14 ?_
      refine zr_iload_n (pc := 17) dX1_knownByAny_17 rfl rfl ?_
      refine zr_iaload (pc := 18) hc.2.2.2.1 (by omega) dX1_knownByAny_18 ?_
      refine zr_ior (pc := 19) dX1_knownByAny_19 ?_
      refine zr_istore_n (pc := 20) dX1_knownByAny_20 rfl (Nat.le_of_ble_eq_true rfl) rfl ?_
      refine zr_iinc (pc := 21) dX1_knownByAny_21 rfl (Nat.le_of_ble_eq_true rfl) rfl ?_
      refine zr_goto (pc := 24) (tgt := 4) dX1_knownByAny_24 (by decide) ?_
      exact ih _ (by omega) _ _ rfl (by omega) (by omega) (by rw [fo_s h0, ← hb, vX_n hk])

set_option maxRecDepth 100000 in
set_option maxHeartbeats 4000000 in
theorem ct_X1_knownByAny {g : zt_G} {M : zm_M} {c : Nat} {q : Int → zm_M → Prop} (hc : zp_camp c) (hw : CW (cvX M c)) (h : q (anyB (cvX M c)) M) : zc_K g yX1_knownByAny mX1_knownByAny [zv_r c] M (zq_I q) := by
  refine zc_of (ls := [some (zv_r c)]) (by decide) rfl ⟨rfl, rfl⟩ (Nat.le_of_ble_eq_true rfl) rfl ?_
  have hw0 := wXt hw
  refine zr_iconst (pc := 0) dX1_knownByAny_0 ?_
  refine zr_istore_n (pc := 1) dX1_knownByAny_1 rfl (Nat.le_of_ble_eq_true rfl) rfl ?_
  refine zr_iconst (pc := 2) dX1_knownByAny_2 ?_
  refine zr_istore_n (pc := 3) dX1_knownByAny_3 rfl (Nat.le_of_ble_eq_true rfl) rfl ?_
  exact lp_X1_knownByAny hc hw h _ _ _ rfl (by omega) (by omega) rfl

set_option maxRecDepth 100000 in
set_option maxHeartbeats 4000000 in
theorem lp_X1_allThatIsKnown {g : zt_G} {M : zm_M} {c : Nat} {q : Int → zm_M → Prop} (hc : zp_camp c) (hw : CW (cvX M c)) (h : q (allN (cvX M c)) M) : ∀ (nn : Nat) (b k : Int), (M c 5 - k).toNat = nn → 0 ≤ k → k ≤ M c 5 → b = fo (fun t b => b + on6 (cn (cvX M c) t)) 0 k.toNat → zc_Z g mX1_allThatIsKnown 4 [some (zv_r c), some (zv_i b), some (zv_i k)] [] M (zq_I q) := by
  intro nn
  induction nn using Nat.strongRecOn with
  | ind nn ih =>
    intro b k hn h0 h1 hb
    have hw0 := wXt hw
    refine zr_iload_n (pc := 4) dX1_allThatIsKnown_4 rfl rfl ?_
    refine zr_aload_n (pc := 5) dX1_allThatIsKnown_5 rfl rfl ?_
    refine zr_getI (pc := 6) (z := 5) fX1_28 hc.1 rfl rfl rfl dX1_allThatIsKnown_6 ?_
    refine zi_icmp_ge (pc := 9) (tgt := 30) dX1_allThatIsKnown_9 (by decide) (by omega) (by omega) (fun h9 => ?_) (fun h9 => ?_)
    · refine zr_iload_n (pc := 30) dX1_allThatIsKnown_30 rfl rfl ?_
      exact zr_ireturn (pc := 31) dX1_allThatIsKnown_31 rfl (zq_eq h (by unfold allN; rw [hb, show k = M c 5 by omega]; rfl))
    · have hk : 0 ≤ k ∧ k < M c 5 := ⟨h0, h9⟩
      have hw1 := wX hw hk
      refine zr_iload_n (pc := 12) dX1_allThatIsKnown_12 rfl rfl ?_
      refine zr_aload_n (pc := 13) dX1_allThatIsKnown_13 rfl rfl ?_
      refine zr_getR (pc := 14) fX1_18 hc.1 rfl rfl dX1_allThatIsKnown_14 ?_
      refine zr_iload_n (pc := 17) dX1_allThatIsKnown_17 rfl rfl ?_
      refine zr_iaload (pc := 18) hc.2.2.2.1 (by omega) dX1_allThatIsKnown_18 ?_
      refine zr_stat1I (pc := 19) rfl sX1_38 rfl rfl dX1_allThatIsKnown_19 ?_
      refine ct_bitCount hw1.2.2.1 ?_
      refine zr_iadd (pc := 22) dX1_allThatIsKnown_22 ?_
      refine zr_istore_n (pc := 23) dX1_allThatIsKnown_23 rfl (Nat.le_of_ble_eq_true rfl) rfl ?_
      refine zr_iinc (pc := 24) dX1_allThatIsKnown_24 rfl (Nat.le_of_ble_eq_true rfl) rfl ?_
      refine zr_goto (pc := 27) (tgt := 4) dX1_allThatIsKnown_27 (by decide) ?_
      exact ih _ (by omega) _ _ rfl (by omega) (by omega) (by rw [fo_s h0, ← hb, vX_n hk])

set_option maxRecDepth 100000 in
set_option maxHeartbeats 4000000 in
theorem ct_X1_allThatIsKnown {g : zt_G} {M : zm_M} {c : Nat} {q : Int → zm_M → Prop} (hc : zp_camp c) (hw : CW (cvX M c)) (h : q (allN (cvX M c)) M) : zc_K g yX1_allThatIsKnown mX1_allThatIsKnown [zv_r c] M (zq_I q) := by
  refine zc_of (ls := [some (zv_r c)]) (by decide) rfl ⟨rfl, rfl⟩ (Nat.le_of_ble_eq_true rfl) rfl ?_
  have hw0 := wXt hw
  refine zr_iconst (pc := 0) dX1_allThatIsKnown_0 ?_
  refine zr_istore_n (pc := 1) dX1_allThatIsKnown_1 rfl (Nat.le_of_ble_eq_true rfl) rfl ?_
  refine zr_iconst (pc := 2) dX1_allThatIsKnown_2 ?_
  refine zr_istore_n (pc := 3) dX1_allThatIsKnown_3 rfl (Nat.le_of_ble_eq_true rfl) rfl ?_
  exact lp_X1_allThatIsKnown hc hw h _ _ _ rfl (by omega) (by omega) rfl

theorem btF {s l : Int} (h : zb_and s (zb_shl 1 l) = 0 ↔ bt s l = false) (h2 : zb_and s (zb_shl 1 l) = 0) : ¬ bt s l = true := by rw [h.mp h2]; decide
theorem btT {s l : Int} (h : zb_and s (zb_shl 1 l) = 0 ↔ bt s l = false) (h2 : ¬ zb_and s (zb_shl 1 l) = 0) : bt s l = true := by
  cases hx : bt s l with
  | true => rfl
  | false => exact absurd (h.mpr hx) h2
set_option maxRecDepth 100000 in
set_option maxHeartbeats 4000000 in
theorem lp_X1_howManyKnow {g : zt_G} {M : zm_M} {c : Nat} {q : Int → zm_M → Prop} (hc : zp_camp c) (hw : CW (cvX M c)) {l : Int} (hx : 0 ≤ l ∧ l < 6) (h : q (howN (cvX M c) l) M) : ∀ (nn : Nat) (b k : Int), (M c 5 - k).toNat = nn → 0 ≤ k → k ≤ M c 5 → b = fo (fun t b => if bt (cn (cvX M c) t) l = true then b + 1 else b) 0 k.toNat → zc_Z g mX1_howManyKnow 4 [some (zv_r c), some (zv_i (zb_shl 1 l)), some (zv_i b), some (zv_i k)] [] M (zq_I q) := by
  intro nn
  induction nn using Nat.strongRecOn with
  | ind nn ih =>
    intro b k hn h0 h1 hb
    have hw0 := wXt hw
    refine zr_iload_n (pc := 4) dX1_howManyKnow_4 rfl rfl ?_
    refine zr_aload_n (pc := 5) dX1_howManyKnow_5 rfl rfl ?_
    refine zr_getI (pc := 6) (z := 5) fX1_28 hc.1 rfl rfl rfl dX1_howManyKnow_6 ?_
    refine zi_icmp_ge (pc := 9) (tgt := 32) dX1_howManyKnow_9 (by decide) (by omega) (by omega) (fun h9 => ?_) (fun h9 => ?_)
    · refine zr_iload_n (pc := 32) dX1_howManyKnow_32 rfl rfl ?_
      exact zr_ireturn (pc := 33) dX1_howManyKnow_33 rfl (zq_eq h (by unfold howN; rw [hb, show k = M c 5 by omega]; rfl))
    · have hk : 0 ≤ k ∧ k < M c 5 := ⟨h0, h9⟩
      have hw1 := wX hw hk
      refine zr_aload_n (pc := 12) dX1_howManyKnow_12 rfl rfl ?_
      refine zr_getR (pc := 13) fX1_18 hc.1 rfl rfl dX1_howManyKnow_13 ?_
      refine zr_iload_n (pc := 16) dX1_howManyKnow_16 rfl rfl ?_
      refine zr_iaload (pc := 17) hc.2.2.2.1 (by omega) dX1_howManyKnow_17 ?_
      have hb6 := and6 hw1.2.2.1 hx
      refine zr_iload_n (pc := 18) dX1_howManyKnow_18 rfl rfl ?_
      refine zr_iand (pc := 19) dX1_howManyKnow_19 ?_
      refine zi_if_eq (pc := 20) (tgt := 26) dX1_howManyKnow_20 (by decide) (by omega) (fun h20 => ?_) (fun h20 => ?_)
      · refine zr_iinc (pc := 26) dX1_howManyKnow_26 rfl (Nat.le_of_ble_eq_true rfl) rfl ?_
        refine zr_goto (pc := 29) (tgt := 4) dX1_howManyKnow_29 (by decide) ?_
        exact ih _ (by omega) _ _ rfl (by omega) (by omega) (by rw [fo_s h0, ← hb, vX_n hk, if_neg (btF hb6.1 h20)])
      · refine zr_iinc (pc := 23) dX1_howManyKnow_23 rfl (Nat.le_of_ble_eq_true rfl) rfl ?_
        refine zr_iinc (pc := 26) dX1_howManyKnow_26 rfl (Nat.le_of_ble_eq_true rfl) rfl ?_
        refine zr_goto (pc := 29) (tgt := 4) dX1_howManyKnow_29 (by decide) ?_
        exact ih _ (by omega) _ _ rfl (by omega) (by omega) (by rw [fo_s h0, ← hb, vX_n hk, if_pos (btT hb6.1 h20)])

set_option maxRecDepth 100000 in
set_option maxHeartbeats 4000000 in
theorem ct_X1_howManyKnow {g : zt_G} {M : zm_M} {c : Nat} {q : Int → zm_M → Prop} (hc : zp_camp c) (hw : CW (cvX M c)) {l : Int} (hx : 0 ≤ l ∧ l < 6) (h : q (howN (cvX M c) l) M) : zc_K g yX1_howManyKnow mX1_howManyKnow [zv_r c, zv_i (zb_shl 1 l)] M (zq_I q) := by
  refine zc_of (ls := [some (zv_r c), some (zv_i (zb_shl 1 l))]) (by decide) rfl ⟨rfl, rfl⟩ (Nat.le_of_ble_eq_true rfl) rfl ?_
  have hw0 := wXt hw
  refine zr_iconst (pc := 0) dX1_howManyKnow_0 ?_
  refine zr_istore_n (pc := 1) dX1_howManyKnow_1 rfl (Nat.le_of_ble_eq_true rfl) rfl ?_
  refine zr_iconst (pc := 2) dX1_howManyKnow_2 ?_
  refine zr_istore_n (pc := 3) dX1_howManyKnow_3 rfl (Nat.le_of_ble_eq_true rfl) rfl ?_
  exact lp_X1_howManyKnow hc hw hx h _ _ _ rfl (by omega) (by omega) rfl

set_option maxRecDepth 100000 in
set_option maxHeartbeats 4000000 in
theorem ct_X1_mayGo {g : zt_G} {M : zm_M} {c : Nat} {q : Int → zm_M → Prop} (hc : zp_camp c) (hw : CW (cvX M c)) {t p : Int} (hti : zi t) (hp : zi p) (h : q (zb_B (cMay (cvX M c) t p)) M) : zc_K g yX1_mayGo mX1_mayGo [zv_r c, zv_i t, zv_i p] M (zq_I q) := by
  refine zc_of (ls := [some (zv_r c), some (zv_i t), some (zv_i p)]) (by decide) rfl ⟨rfl, rfl⟩ (Nat.le_of_ble_eq_true rfl) rfl ?_
  have hw0 := wXt hw
  refine zr_aload_n (pc := 0) dX1_mayGo_0 rfl rfl ?_
  refine zr_iload_n (pc := 1) dX1_mayGo_1 rfl rfl ?_
  refine zr_inv1I (pc := 2) rfl sX1_74 hc.1 rfl rfl rfl dX1_mayGo_2 ?_
  refine ct_X1_has hc hw hti ?_
  refine zr_ifb_eq (pc := 5) (tgt := 31) dX1_mayGo_5 (by decide) (fun h5 => ?_) (fun h5 => ?_)
  · refine zr_iconst (pc := 31) dX1_mayGo_31 ?_
    exact zr_zreturn (pc := 32) dX1_mayGo_32 rfl (by decide) (zq_eq h (zb_F (fun x => h5 x.1)))
  · have ht : 0 ≤ t ∧ t < M c 5 := h5
    have hw1 := wX hw ht
    refine zr_iload_n (pc := 8) dX1_mayGo_8 rfl rfl ?_
    refine zr_nest1I (pc := 9) rfl sX1_75 rfl rfl dX1_mayGo_9 ?_
    refine ct_X10_isPlace hp ?_
    refine zr_ifb_eq (pc := 12) (tgt := 31) dX1_mayGo_12 (by decide) (fun h12 => ?_) (fun h12 => ?_)
    · refine zr_iconst (pc := 31) dX1_mayGo_31 ?_
      exact zr_zreturn (pc := 32) dX1_mayGo_32 rfl (by decide) (zq_eq h (zb_F (fun x => h12 x.2.1)))
    · refine zr_aload_n (pc := 15) dX1_mayGo_15 rfl rfl ?_
      refine zr_iload_n (pc := 16) dX1_mayGo_16 rfl rfl ?_
      refine zr_inv1I (pc := 17) rfl sX1_34 hc.1 rfl rfl rfl dX1_mayGo_17 ?_
      refine ct_X1_isHummock hc hw h5 ?_
      refine zr_ifb_ne (pc := 20) (tgt := 31) dX1_mayGo_20 (by decide) (fun h20 => ?_) (fun h20 => ?_)
      · refine zr_iconst (pc := 31) dX1_mayGo_31 ?_
        exact zr_zreturn (pc := 32) dX1_mayGo_32 rfl (by decide) (zq_eq h (zb_F (fun x => x.2.2.1 h20)))
      · refine zr_aload_n (pc := 23) dX1_mayGo_23 rfl rfl ?_
        refine zr_iload_n (pc := 24) dX1_mayGo_24 rfl rfl ?_
        refine zr_inv1I (pc := 25) rfl sX1_78 hc.1 rfl rfl rfl dX1_mayGo_25 ?_
        refine ct_X1_hasWalked hc hw h5 ?_
        refine zr_ifb_eq (pc := 28) (tgt := 33) dX1_mayGo_28 (by decide) (fun h28 => ?_) (fun h28 => ?_)
        · refine zr_iload_n (pc := 33) dX1_mayGo_33 rfl rfl ?_
          refine zr_aload_n (pc := 34) dX1_mayGo_34 rfl rfl ?_
          refine zr_getR (pc := 35) fX1_9 hc.1 rfl rfl dX1_mayGo_35 ?_
          refine zr_iload_n (pc := 38) dX1_mayGo_38 rfl rfl ?_
          refine zr_iaload (pc := 39) hc.2.1 (by omega) dX1_mayGo_39 ?_
          refine zr_isub (pc := 40) dX1_mayGo_40 ?_
          refine zr_mabs (pc := 41) rfl sX1_81 rfl dX1_mayGo_41 ?_
          rw [show (if 0 ≤ zw (p - M (c + 1) t) then p - M (c + 1) t else 0 - (p - M (c + 1) t)) = (if p ≤ M (c + 1) t then M (c + 1) t - p else p - M (c + 1) t) from by rw [zw_id (by omega) (by omega)]; split <;> split <;> omega]
          obtain ⟨f, hf⟩ : ∃ f, f = (if p ≤ M (c + 1) t then M (c + 1) t - p else p - M (c + 1) t) := ⟨_, rfl⟩
          rw [← hf]
          have hf2 : (p ≤ M (c + 1) t ∧ f = M (c + 1) t - p) ∨ (¬ p ≤ M (c + 1) t ∧ f = p - M (c + 1) t) := by
            by_cases hx : p ≤ M (c + 1) t
            · exact Or.inl ⟨hx, by rw [hf, if_pos hx]⟩
            · exact Or.inr ⟨hx, by rw [hf, if_neg hx]⟩
          have hh : ch (cvX M c) t = M (c + 4) t := vX_h ht
          refine zr_istore_n (pc := 44) dX1_mayGo_44 rfl (Nat.le_of_ble_eq_true rfl) rfl ?_
          refine zr_iload_n (pc := 45) dX1_mayGo_45 rfl rfl ?_
          refine zi_if_le (pc := 46) (tgt := 62) dX1_mayGo_46 (by decide) (by omega) (fun h46 => ?_) (fun h46 => ?_)
          · refine zr_iconst (pc := 62) dX1_mayGo_62 ?_
            exact zr_zreturn (pc := 63) dX1_mayGo_63 rfl (by decide) (zq_eq h (zb_F (fun x => x.2.2.2.2.1 (by rw [vX_p ht]; omega))))
          · refine zr_iload_n (pc := 49) dX1_mayGo_49 rfl rfl ?_
            refine zr_aload_n (pc := 50) dX1_mayGo_50 rfl rfl ?_
            refine zr_iload_n (pc := 51) dX1_mayGo_51 rfl rfl ?_
            refine zr_inv1I (pc := 52) rfl sX1_84 hc.1 rfl rfl rfl dX1_mayGo_52 ?_
            refine ct_X1_speedOf hc hw h5 ?_
            refine zi_icmp_gt (pc := 55) (tgt := 62) dX1_mayGo_55 (by decide) (by omega) (by omega) (fun h55 => ?_) (fun h55 => ?_)
            · refine zr_iconst (pc := 62) dX1_mayGo_62 ?_
              exact zr_zreturn (pc := 63) dX1_mayGo_63 rfl (by decide) (zq_eq h (zb_F (fun x => by have h8 := x.2.2.2.2.2; rw [vX_p ht, ← hf] at h8; omega)))
            · refine zr_iconst (pc := 58) dX1_mayGo_58 ?_
              refine zr_goto (pc := 59) (tgt := 63) dX1_mayGo_59 (by decide) ?_
              exact zr_zreturn (pc := 63) dX1_mayGo_63 rfl (by decide) (zq_eq h (zb_T ⟨h5, h12, h20, h28, (by rw [vX_p ht]; omega), (by rw [vX_p ht, ← hf]; exact h55)⟩))
        · refine zr_iconst (pc := 31) dX1_mayGo_31 ?_
          exact zr_zreturn (pc := 32) dX1_mayGo_32 rfl (by decide) (zq_eq h (zb_F (fun x => x.2.2.2.1 h28)))

set_option maxRecDepth 100000 in
set_option maxHeartbeats 4000000 in
theorem ct_X1_goTo {g : zt_G} {M : zm_M} {c : Nat} {q : zm_M → Prop} (hc : zp_camp c) (hw : CW (cvX M c)) {t : Int} (ht : 0 ≤ t ∧ t < M c 5) {p : Int} (h : ∀ M2, frC c M M2 → cvX M2 c = cgo t p (cvX M c) → q M2) : zc_K g yX1_goTo mX1_goTo [zv_r c, zv_i t, zv_i p] M (zq_V q) := by
  refine zc_of (ls := [some (zv_r c), some (zv_i t), some (zv_i p)]) (by decide) rfl ⟨rfl, rfl⟩ (Nat.le_of_ble_eq_true rfl) rfl ?_
  have hw0 := wXt hw
  have hw1 := wX hw ht
  have hww := wXw hw
  refine zr_aload_n (pc := 0) dX1_goTo_0 rfl rfl ?_
  refine zr_getR (pc := 1) fX1_9 hc.1 rfl rfl dX1_goTo_1 ?_
  refine zr_iload_n (pc := 4) dX1_goTo_4 rfl rfl ?_
  refine zr_iload_n (pc := 5) dX1_goTo_5 rfl rfl ?_
  refine zr_iastore (pc := 6) hc.2.1 (by omega) dX1_goTo_6 ?_
  refine zr_aload_n (pc := 7) dX1_goTo_7 rfl rfl ?_
  refine zr_dup_r (pc := 8) dX1_goTo_8 ?_
  refine zr_getI (pc := 9) (z := 4) fX1_24 hc.1 rfl rfl rfl dX1_goTo_9 ?_
  refine zr_iconst (pc := 12) dX1_goTo_12 ?_
  refine zr_iload_n (pc := 13) dX1_goTo_13 rfl rfl ?_
  refine zr_ishl (pc := 14) dX1_goTo_14 ?_
  refine zr_ior (pc := 15) dX1_goTo_15 ?_
  refine zr_putI (pc := 16) (z := 4) fX1_24 hc.1 rfl fwX1_4 rfl rfl dX1_goTo_16 ?_
  exact zr_return (pc := 19) dX1_goTo_19 rfl (h _ ((frC.rf.put (c + 1) t p (by omega)).put c 4 _ (by omega)) (by rw [cvX_wa, cvX_pl ht.1 ht.2, put_ne M t p (show c ≠ c + 1 by omega)]; rfl))

set_option maxRecDepth 100000 in
set_option maxHeartbeats 4000000 in
theorem ct_X1_goesIfItMay {g : zt_G} {M : zm_M} {c : Nat} {q : Int → zm_M → Prop} (hc : zp_camp c) (hw : CW (cvX M c)) {t p : Int} (hti : zi t) (hp : zi p) (hno : ¬ cMay (cvX M c) t p → q 0 M) (hyes : cMay (cvX M c) t p → ∀ M2, frC c M M2 → cvX M2 c = cgo t p (cvX M c) → q 1 M2) : zc_K g yX1_goesIfItMay mX1_goesIfItMay [zv_r c, zv_i t, zv_i p] M (zq_I q) := by
  refine zc_of (ls := [some (zv_r c), some (zv_i t), some (zv_i p)]) (by decide) rfl ⟨rfl, rfl⟩ (Nat.le_of_ble_eq_true rfl) rfl ?_
  refine zr_aload_n (pc := 0) dX1_goesIfItMay_0 rfl rfl ?_
  refine zr_iload_n (pc := 1) dX1_goesIfItMay_1 rfl rfl ?_
  refine zr_iload_n (pc := 2) dX1_goesIfItMay_2 rfl rfl ?_
  refine zr_inv2I (pc := 3) rfl sX1_87 hc.1 rfl rfl rfl dX1_goesIfItMay_3 ?_
  refine ct_X1_mayGo hc hw hti hp ?_
  refine zr_ifb_ne (pc := 6) (tgt := 11) dX1_goesIfItMay_6 (by decide) (fun h6 => ?_) (fun h6 => ?_)
  · refine zr_aload_n (pc := 11) dX1_goesIfItMay_11 rfl rfl ?_
    refine zr_iload_n (pc := 12) dX1_goesIfItMay_12 rfl rfl ?_
    refine zr_iload_n (pc := 13) dX1_goesIfItMay_13 rfl rfl ?_
    refine zr_inv2V (pc := 14) rfl sX1_91 hc.1 rfl rfl rfl dX1_goesIfItMay_14 ?_
    refine ct_X1_goTo hc hw h6.1 (fun M2 hfr hv => ?_)
    refine zr_iconst (pc := 17) dX1_goesIfItMay_17 ?_
    exact zr_zreturn (pc := 18) dX1_goesIfItMay_18 rfl (by decide) (hyes h6 _ hfr hv)
  · refine zr_iconst (pc := 9) dX1_goesIfItMay_9 ?_
    exact zr_zreturn (pc := 10) dX1_goesIfItMay_10 rfl (by decide) (hno h6)

set_option maxRecDepth 100000 in
set_option maxHeartbeats 4000000 in
theorem ct_X1_mayHear {g : zt_G} {M : zm_M} {c : Nat} {q : Int → zm_M → Prop} (hc : zp_camp c) (hw : CW (cvX M c)) {a b : Int} (ha : zi a) (hb : zi b) (h : q (zb_B (cHear (cvX M c) a b)) M) : zc_K g yX1_mayHear mX1_mayHear [zv_r c, zv_i a, zv_i b] M (zq_I q) := by
  refine zc_of (ls := [some (zv_r c), some (zv_i a), some (zv_i b)]) (by decide) rfl ⟨rfl, rfl⟩ (Nat.le_of_ble_eq_true rfl) rfl ?_
  have hw0 := wXt hw
  refine zr_aload_n (pc := 0) dX1_mayHear_0 rfl rfl ?_
  refine zr_iload_n (pc := 1) dX1_mayHear_1 rfl rfl ?_
  refine zr_inv1I (pc := 2) rfl sX1_74 hc.1 rfl rfl rfl dX1_mayHear_2 ?_
  refine ct_X1_has hc hw ha ?_
  refine zr_ifb_eq (pc := 5) (tgt := 48) dX1_mayHear_5 (by decide) (fun h5 => ?_) (fun h5 => ?_)
  · refine zr_iconst (pc := 48) dX1_mayHear_48 ?_
    exact zr_zreturn (pc := 49) dX1_mayHear_49 rfl (by decide) (zq_eq h (zb_F (fun x => h5 x.1)))
  · refine zr_aload_n (pc := 8) dX1_mayHear_8 rfl rfl ?_
    refine zr_iload_n (pc := 9) dX1_mayHear_9 rfl rfl ?_
    refine zr_inv1I (pc := 10) rfl sX1_74 hc.1 rfl rfl rfl dX1_mayHear_10 ?_
    refine ct_X1_has hc hw hb ?_
    refine zr_ifb_eq (pc := 13) (tgt := 48) dX1_mayHear_13 (by decide) (fun h13 => ?_) (fun h13 => ?_)
    · refine zr_iconst (pc := 48) dX1_mayHear_48 ?_
      exact zr_zreturn (pc := 49) dX1_mayHear_49 rfl (by decide) (zq_eq h (zb_F (fun x => h13 x.2.1)))
    · have ea : 0 ≤ a ∧ a < M c 5 := h5
      have eb : 0 ≤ b ∧ b < M c 5 := h13
      have hwa := wX hw ea
      have hwb := wX hw eb
      refine zr_iload_n (pc := 16) dX1_mayHear_16 rfl rfl ?_
      refine zr_iload_n (pc := 17) dX1_mayHear_17 rfl rfl ?_
      refine zi_icmp_eq (pc := 18) (tgt := 48) dX1_mayHear_18 (by decide) (by omega) (by omega) (fun h18 => ?_) (fun h18 => ?_)
      · refine zr_iconst (pc := 48) dX1_mayHear_48 ?_
        exact zr_zreturn (pc := 49) dX1_mayHear_49 rfl (by decide) (zq_eq h (zb_F (fun x => x.2.2.1 h18)))
      · refine zr_aload_n (pc := 21) dX1_mayHear_21 rfl rfl ?_
        refine zr_getR (pc := 22) fX1_9 hc.1 rfl rfl dX1_mayHear_22 ?_
        refine zr_iload_n (pc := 25) dX1_mayHear_25 rfl rfl ?_
        refine zr_iaload (pc := 26) hc.2.1 (by omega) dX1_mayHear_26 ?_
        refine zr_aload_n (pc := 27) dX1_mayHear_27 rfl rfl ?_
        refine zr_getR (pc := 28) fX1_9 hc.1 rfl rfl dX1_mayHear_28 ?_
        refine zr_iload_n (pc := 31) dX1_mayHear_31 rfl rfl ?_
        refine zr_iaload (pc := 32) hc.2.1 (by omega) dX1_mayHear_32 ?_
        refine zi_icmp_ne (pc := 33) (tgt := 48) dX1_mayHear_33 (by decide) (by omega) (by omega) (fun h33 => ?_) (fun h33 => ?_)
        · refine zr_iconst (pc := 48) dX1_mayHear_48 ?_
          exact zr_zreturn (pc := 49) dX1_mayHear_49 rfl (by decide) (zq_eq h (zb_F (fun x => h33 (by have h8 := x.2.2.2.1; rw [vX_p ea, vX_p eb] at h8; exact h8))))
        · refine zr_aload_n (pc := 36) dX1_mayHear_36 rfl rfl ?_
          refine zr_iload_n (pc := 37) dX1_mayHear_37 rfl rfl ?_
          refine zr_inv1I (pc := 38) rfl sX1_34 hc.1 rfl rfl rfl dX1_mayHear_38 ?_
          refine ct_X1_isHummock hc hw h13 ?_
          refine zr_ifb_ne (pc := 41) (tgt := 48) dX1_mayHear_41 (by decide) (fun h41 => ?_) (fun h41 => ?_)
          · refine zr_iconst (pc := 48) dX1_mayHear_48 ?_
            exact zr_zreturn (pc := 49) dX1_mayHear_49 rfl (by decide) (zq_eq h (zb_F (fun x => x.2.2.2.2 h41)))
          · refine zr_iconst (pc := 44) dX1_mayHear_44 ?_
            refine zr_goto (pc := 45) (tgt := 49) dX1_mayHear_45 (by decide) ?_
            exact zr_zreturn (pc := 49) dX1_mayHear_49 rfl (by decide) (zq_eq h (zb_T ⟨h5, h13, h18, (by rw [vX_p ea, vX_p eb]; exact h33), h41⟩))

set_option maxRecDepth 100000 in
set_option maxHeartbeats 4000000 in
theorem ct_X1_hear {g : zt_G} {M : zm_M} {c : Nat} {q : zm_M → Prop} (hc : zp_camp c) (hw : CW (cvX M c)) {a b : Int} (ha : 0 ≤ a ∧ a < M c 5) (hb : 0 ≤ b ∧ b < M c 5) (h : ∀ M2, frC c M M2 → cvX M2 c = chr a b (cvX M c) → q M2) : zc_K g yX1_hear mX1_hear [zv_r c, zv_i a, zv_i b] M (zq_V q) := by
  refine zc_of (ls := [some (zv_r c), some (zv_i a), some (zv_i b)]) (by decide) rfl ⟨rfl, rfl⟩ (Nat.le_of_ble_eq_true rfl) rfl ?_
  have hw0 := wXt hw
  refine zr_aload_n (pc := 0) dX1_hear_0 rfl rfl ?_
  refine zr_getR (pc := 1) fX1_18 hc.1 rfl rfl dX1_hear_1 ?_
  refine zr_iload_n (pc := 4) dX1_hear_4 rfl rfl ?_
  refine zr_dup2_ir (pc := 5) dX1_hear_5 ?_
  refine zr_iaload (pc := 6) hc.2.2.2.1 (by omega) dX1_hear_6 ?_
  refine zr_aload_n (pc := 7) dX1_hear_7 rfl rfl ?_
  refine zr_getR (pc := 8) fX1_18 hc.1 rfl rfl dX1_hear_8 ?_
  refine zr_iload_n (pc := 11) dX1_hear_11 rfl rfl ?_
  refine zr_iaload (pc := 12) hc.2.2.2.1 (by omega) dX1_hear_12 ?_
  refine zr_ior (pc := 13) dX1_hear_13 ?_
  refine zr_iastore (pc := 14) hc.2.2.2.1 (by omega) dX1_hear_14 ?_
  exact zr_return (pc := 15) dX1_hear_15 rfl (h _ (frC.rf.put (c + 3) b _ (by omega)) (by rw [cvX_kn hb.1 hb.2]; unfold chr; rw [vX_n ha, vX_n hb]))

set_option maxRecDepth 100000 in
set_option maxHeartbeats 4000000 in
theorem ct_X1_hearsIfItMay {g : zt_G} {M : zm_M} {c : Nat} {q : Int → zm_M → Prop} (hc : zp_camp c) (hw : CW (cvX M c)) {a b : Int} (ha : zi a) (hb : zi b) (hno : ¬ cHear (cvX M c) a b → q 0 M) (hyes : cHear (cvX M c) a b → ∀ M2, frC c M M2 → cvX M2 c = chr a b (cvX M c) → q 1 M2) : zc_K g yX1_hearsIfItMay mX1_hearsIfItMay [zv_r c, zv_i a, zv_i b] M (zq_I q) := by
  refine zc_of (ls := [some (zv_r c), some (zv_i a), some (zv_i b)]) (by decide) rfl ⟨rfl, rfl⟩ (Nat.le_of_ble_eq_true rfl) rfl ?_
  refine zr_aload_n (pc := 0) dX1_hearsIfItMay_0 rfl rfl ?_
  refine zr_iload_n (pc := 1) dX1_hearsIfItMay_1 rfl rfl ?_
  refine zr_iload_n (pc := 2) dX1_hearsIfItMay_2 rfl rfl ?_
  refine zr_inv2I (pc := 3) rfl sX1_95 hc.1 rfl rfl rfl dX1_hearsIfItMay_3 ?_
  refine ct_X1_mayHear hc hw ha hb ?_
  refine zr_ifb_ne (pc := 6) (tgt := 11) dX1_hearsIfItMay_6 (by decide) (fun h6 => ?_) (fun h6 => ?_)
  · refine zr_aload_n (pc := 11) dX1_hearsIfItMay_11 rfl rfl ?_
    refine zr_iload_n (pc := 12) dX1_hearsIfItMay_12 rfl rfl ?_
    refine zr_iload_n (pc := 13) dX1_hearsIfItMay_13 rfl rfl ?_
    refine zr_inv2V (pc := 14) rfl sX1_98 hc.1 rfl rfl rfl dX1_hearsIfItMay_14 ?_
    refine ct_X1_hear hc hw h6.1 h6.2.1 (fun M2 hfr hv => ?_)
    refine zr_iconst (pc := 17) dX1_hearsIfItMay_17 ?_
    exact zr_zreturn (pc := 18) dX1_hearsIfItMay_18 rfl (by decide) (hyes h6 _ hfr hv)
  · refine zr_iconst (pc := 9) dX1_hearsIfItMay_9 ?_
    exact zr_zreturn (pc := 10) dX1_hearsIfItMay_10 rfl (by decide) (hno h6)

set_option maxRecDepth 100000 in
set_option maxHeartbeats 4000000 in
theorem ct_X1_mayBathe {g : zt_G} {M : zm_M} {c : Nat} {q : Int → zm_M → Prop} (hc : zp_camp c) (hw : CW (cvX M c)) {t : Int} (ht : zi t) (h : q (zb_B (cBat (cvX M c) t)) M) : zc_K g yX1_mayBathe mX1_mayBathe [zv_r c, zv_i t] M (zq_I q) := by
  refine zc_of (ls := [some (zv_r c), some (zv_i t)]) (by decide) rfl ⟨rfl, rfl⟩ (Nat.le_of_ble_eq_true rfl) rfl ?_
  refine zr_aload_n (pc := 0) dX1_mayBathe_0 rfl rfl ?_
  refine zr_iload_n (pc := 1) dX1_mayBathe_1 rfl rfl ?_
  refine zr_inv1I (pc := 2) rfl sX1_74 hc.1 rfl rfl rfl dX1_mayBathe_2 ?_
  refine ct_X1_has hc hw ht ?_
  refine zr_ifb_eq (pc := 5) (tgt := 20) dX1_mayBathe_5 (by decide) (fun h5 => ?_) (fun h5 => ?_)
  · refine zr_iconst (pc := 20) dX1_mayBathe_20 ?_
    exact zr_zreturn (pc := 21) dX1_mayBathe_21 rfl (by decide) (zq_eq h (zb_F (fun x => h5 x.1)))
  · refine zr_aload_n (pc := 8) dX1_mayBathe_8 rfl rfl ?_
    refine zr_iload_n (pc := 9) dX1_mayBathe_9 rfl rfl ?_
    refine zr_inv1I (pc := 10) rfl sX1_34 hc.1 rfl rfl rfl dX1_mayBathe_10 ?_
    refine ct_X1_isHummock hc hw h5 ?_
    refine zr_ifb_ne (pc := 13) (tgt := 20) dX1_mayBathe_13 (by decide) (fun h13 => ?_) (fun h13 => ?_)
    · refine zr_iconst (pc := 20) dX1_mayBathe_20 ?_
      exact zr_zreturn (pc := 21) dX1_mayBathe_21 rfl (by decide) (zq_eq h (zb_F (fun x => x.2 h13)))
    · refine zr_iconst (pc := 16) dX1_mayBathe_16 ?_
      refine zr_goto (pc := 17) (tgt := 21) dX1_mayBathe_17 (by decide) ?_
      exact zr_zreturn (pc := 21) dX1_mayBathe_21 rfl (by decide) (zq_eq h (zb_T ⟨h5, h13⟩))

set_option maxRecDepth 100000 in
set_option maxHeartbeats 4000000 in
theorem ct_X1_bathe {g : zt_G} {M : zm_M} {c : Nat} {q : zm_M → Prop} (hc : zp_camp c) (hw : CW (cvX M c)) {t : Int} (ht : 0 ≤ t ∧ t < M c 5) (h : ∀ M2, frC c M M2 → cvX M2 c = cba t (cvX M c) → q M2) : zc_K g yX1_bathe mX1_bathe [zv_r c, zv_i t] M (zq_V q) := by
  refine zc_of (ls := [some (zv_r c), some (zv_i t)]) (by decide) rfl ⟨rfl, rfl⟩ (Nat.le_of_ble_eq_true rfl) rfl ?_
  have hw0 := wXt hw
  have hw1 := wX hw ht
  have hww := wXw hw
  refine zr_aload_n (pc := 0) dX1_bathe_0 rfl rfl ?_
  refine zr_getR (pc := 1) fX1_18 hc.1 rfl rfl dX1_bathe_1 ?_
  refine zr_iload_n (pc := 4) dX1_bathe_4 rfl rfl ?_
  refine zr_iconst (pc := 5) dX1_bathe_5 ?_
  refine zr_iastore (pc := 6) hc.2.2.2.1 (by omega) dX1_bathe_6 ?_
  refine zr_aload_n (pc := 7) dX1_bathe_7 rfl rfl ?_
  refine zr_getR (pc := 8) fX1_21 hc.1 rfl rfl dX1_bathe_8 ?_
  refine zr_iload_n (pc := 11) dX1_bathe_11 rfl rfl ?_
  refine zr_iconst (pc := 12) dX1_bathe_12 ?_
  refine zr_iastore (pc := 13) hc.2.2.2.2 (by omega) dX1_bathe_13 ?_
  exact zr_return (pc := 14) dX1_bathe_14 rfl (h _ ((frC.rf.put (c + 3) t 0 (by omega)).put (c + 4) t 0 (by omega)) (by rw [cvX_wh ht.1 (by rw [put_ne M t 0 (show c ≠ c + 3 by omega)]; exact ht.2), cvX_kn ht.1 ht.2]; rfl))

set_option maxRecDepth 100000 in
set_option maxHeartbeats 4000000 in
theorem ct_X1_bathesIfItMay {g : zt_G} {M : zm_M} {c : Nat} {q : Int → zm_M → Prop} (hc : zp_camp c) (hw : CW (cvX M c)) {t : Int} (ht : zi t) (hno : ¬ cBat (cvX M c) t → q 0 M) (hyes : cBat (cvX M c) t → ∀ M2, frC c M M2 → cvX M2 c = cba t (cvX M c) → q 1 M2) : zc_K g yX1_bathesIfItMay mX1_bathesIfItMay [zv_r c, zv_i t] M (zq_I q) := by
  refine zc_of (ls := [some (zv_r c), some (zv_i t)]) (by decide) rfl ⟨rfl, rfl⟩ (Nat.le_of_ble_eq_true rfl) rfl ?_
  refine zr_aload_n (pc := 0) dX1_bathesIfItMay_0 rfl rfl ?_
  refine zr_iload_n (pc := 1) dX1_bathesIfItMay_1 rfl rfl ?_
  refine zr_inv1I (pc := 2) rfl sX1_101 hc.1 rfl rfl rfl dX1_bathesIfItMay_2 ?_
  refine ct_X1_mayBathe hc hw ht ?_
  refine zr_ifb_ne (pc := 5) (tgt := 10) dX1_bathesIfItMay_5 (by decide) (fun h5 => ?_) (fun h5 => ?_)
  · refine zr_aload_n (pc := 10) dX1_bathesIfItMay_10 rfl rfl ?_
    refine zr_iload_n (pc := 11) dX1_bathesIfItMay_11 rfl rfl ?_
    refine zr_inv1V (pc := 12) rfl sX1_104 hc.1 rfl rfl rfl dX1_bathesIfItMay_12 ?_
    refine ct_X1_bathe hc hw h5.1 (fun M2 hfr hv => ?_)
    refine zr_iconst (pc := 15) dX1_bathesIfItMay_15 ?_
    exact zr_zreturn (pc := 16) dX1_bathesIfItMay_16 rfl (by decide) (hyes h5 _ hfr hv)
  · refine zr_iconst (pc := 8) dX1_bathesIfItMay_8 ?_
    exact zr_zreturn (pc := 9) dX1_bathesIfItMay_9 rfl (by decide) (hno h5)

