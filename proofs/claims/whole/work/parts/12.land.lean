def bitG (L : Ln) (g : Int) : Int := fo (fun k b => zb_or b (zb_shl 1 (L.2.2.2 g k))) 0 (L.2.2.1 g).toNat
def figG (L : Ln) (g : Int) : Int := fo (fun k v => 10 * v + L.2.2.2 g k + 1) 0 (L.2.2.1 g).toNat
def bitL (L : Ln) : Int := fo (fun g b => zb_or b (bitG L g)) 0 L.1.toNat
def wgt (L : Ln) (cold x : Int) : Int := fo (fun g w => w * (if bt cold g = true then x else 10 - x)) 1 L.1.toNat
theorem bitG_in {L : Ln} (h : LW L) (g : Int) : 0 ≤ bitG L g ∧ bitG L g < 64 := by
  unfold bitG
  refine fo_p (P := fun b : Int => 0 ≤ b ∧ b < 64) ⟨by decide, by decide⟩ (fun i b _ _ hb => ?_)
  have := h.2.2 g i
  exact or6 hb ⟨this.1, by omega⟩
theorem bitL_in {L : Ln} (h : LW L) : 0 ≤ bitL L ∧ bitL L < 64 := by
  unfold bitL
  exact fo_p (P := fun b : Int => 0 ≤ b ∧ b < 64) ⟨by decide, by decide⟩ (fun i b _ _ hb => oo6 hb (bitG_in h i))
theorem and4 {s l : Int} (hs : 0 ≤ s ∧ s < 16) (hl : 0 ≤ l ∧ l < 4) : (zb_and s (zb_shl 1 l) = 0 ↔ bt s l = false) ∧ 0 ≤ zb_and s (zb_shl 1 l) ∧ zb_and s (zb_shl 1 l) < 64 := and6 ⟨hs.1, by omega⟩ ⟨hl.1, by omega⟩
set_option maxRecDepth 100000 in
set_option maxHeartbeats 4000000 in
theorem ct_X3_has {g : zt_G} {M : zm_M} {l : Nat} {q : Int → zm_M → Prop} (hl : zp_land l) (hw : LW (lvX M l)) {t : Int} (ht : zi t) (h : q (zb_B (0 ≤ t ∧ t < M l 3)) M) : zc_K g yX3_has mX3_has [zv_r l, zv_i t] M (zq_I q) := by
  refine zc_of (ls := [some (zv_r l), some (zv_i t)]) (by decide) rfl ⟨rfl, rfl⟩ (Nat.le_of_ble_eq_true rfl) rfl ?_
  have hw1 := yXk hw
  refine zr_iload_n (pc := 0) dX3_has_0 rfl rfl ?_
  refine zi_if_lt (pc := 1) (tgt := 16) dX3_has_1 (by decide) (by omega) (fun h1 => ?_) (fun h1 => ?_)
  · refine zr_iconst (pc := 16) dX3_has_16 ?_
    exact zr_zreturn (pc := 17) dX3_has_17 rfl (by decide) (zq_eq h (zb_F (by omega)))
  · refine zr_iload_n (pc := 4) dX3_has_4 rfl rfl ?_
    refine zr_aload_n (pc := 5) dX3_has_5 rfl rfl ?_
    refine zr_getI (pc := 6) (z := 3) fX3_21 hl.1 rfl rfl rfl dX3_has_6 ?_
    refine zi_icmp_ge (pc := 9) (tgt := 16) dX3_has_9 (by decide) (by omega) (by omega) (fun h9 => ?_) (fun h9 => ?_)
    · refine zr_iconst (pc := 16) dX3_has_16 ?_
      exact zr_zreturn (pc := 17) dX3_has_17 rfl (by decide) (zq_eq h (zb_F (by omega)))
    · refine zr_iconst (pc := 12) dX3_has_12 ?_
      refine zr_goto (pc := 13) (tgt := 17) dX3_has_13 (by decide) ?_
      exact zr_zreturn (pc := 17) dX3_has_17 rfl (by decide) (zq_eq h (zb_T (by omega)))

set_option maxRecDepth 100000 in
set_option maxHeartbeats 4000000 in
theorem ct_X3_layerOf {g : zt_G} {M : zm_M} {l : Nat} {q : Int → zm_M → Prop} (hl : zp_land l) {t k : Int} (ht : 0 ≤ t ∧ t < 4) (hk : 0 ≤ k ∧ k < 4) (h : q (M (l + 3) (t * 4 + k)) M) : zc_K g yX3_layerOf mX3_layerOf [zv_r l, zv_i t, zv_i k] M (zq_I q) := by
  refine zc_of (ls := [some (zv_r l), some (zv_i t), some (zv_i k)]) (by decide) rfl ⟨rfl, rfl⟩ (Nat.le_of_ble_eq_true rfl) rfl ?_
  refine zr_aload_n (pc := 0) dX3_layerOf_0 rfl rfl ?_
  refine zr_getR (pc := 1) fX3_18 hl.1 rfl rfl dX3_layerOf_1 ?_
  refine zr_iload_n (pc := 4) dX3_layerOf_4 rfl rfl ?_
  refine zr_iconst (pc := 5) dX3_layerOf_5 ?_
  refine zr_imul (pc := 6) dX3_layerOf_6 ?_
  refine zr_iload_n (pc := 7) dX3_layerOf_7 rfl rfl ?_
  refine zr_iadd (pc := 8) dX3_layerOf_8 ?_
  refine zr_iaload (pc := 9) hl.2.2.2 (by omega) dX3_layerOf_9 ?_
  exact zr_ireturn (pc := 10) dX3_layerOf_10 rfl (zq_eq h rfl)

set_option maxRecDepth 100000 in
set_option maxHeartbeats 4000000 in
theorem lp_X3_kilnAt {g : zt_G} {M : zm_M} {l : Nat} {q : Int → zm_M → Prop} (hl : zp_land l) (hw : LW (lvX M l)) {p : Int} (hp : zi p) : ∀ (nn : Nat) (t : Int), (M l 3 - t).toNat = nn → 0 ≤ t → t ≤ M l 3 → q (kat (lvX M l).2.1 p (M l 3 - t).toNat t) M → zc_Z g mX3_kilnAt 2 [some (zv_r l), some (zv_i p), some (zv_i t)] [] M (zq_I q) := by
  intro nn
  induction nn using Nat.strongRecOn with
  | ind nn ih =>
    intro t hn h0 hle h
    have hw1 := yXk hw
    refine zr_iload_n (pc := 2) dX3_kilnAt_2 rfl rfl ?_
    refine zr_aload_n (pc := 3) dX3_kilnAt_3 rfl rfl ?_
    refine zr_getI (pc := 4) (z := 3) fX3_21 hl.1 rfl rfl rfl dX3_kilnAt_4 ?_
    refine zi_icmp_ge (pc := 7) (tgt := 28) dX3_kilnAt_7 (by decide) (by omega) (by omega) (fun h7 => ?_) (fun h7 => ?_)
    · refine zr_bipush (pc := 28) dX3_kilnAt_28 (by decide) ?_
      exact zr_ireturn (pc := 30) dX3_kilnAt_30 rfl (zq_eq h (by rw [show (M l 3 - t).toNat = 0 by omega]; rfl))
    · have hw2 := yX hw ⟨h0, h7⟩
      have e1 : (M l 3 - t).toNat = (M l 3 - (t + 1)).toNat + 1 := by omega
      rw [e1] at h
      unfold kat at h
      rw [lX_p ⟨h0, h7⟩] at h
      refine zr_aload_n (pc := 10) dX3_kilnAt_10 rfl rfl ?_
      refine zr_getR (pc := 11) fX3_9 hl.1 rfl rfl dX3_kilnAt_11 ?_
      refine zr_iload_n (pc := 14) dX3_kilnAt_14 rfl rfl ?_
      refine zr_iaload (pc := 15) hl.2.1 (by omega) dX3_kilnAt_15 ?_
      refine zr_iload_n (pc := 16) dX3_kilnAt_16 rfl rfl ?_
      refine zi_icmp_ne (pc := 17) (tgt := 22) dX3_kilnAt_17 (by decide) (by omega) (by omega) (fun h17 => ?_) (fun h17 => ?_)
      · rw [if_neg h17] at h
        refine zr_iinc (pc := 22) dX3_kilnAt_22 rfl (Nat.le_of_ble_eq_true rfl) rfl ?_
        refine zr_goto (pc := 25) (tgt := 2) dX3_kilnAt_25 (by decide) ?_
        exact ih _ (by omega) _ rfl (by omega) (by omega) h
      · rw [if_pos h17] at h
        refine zr_iload_n (pc := 20) dX3_kilnAt_20 rfl rfl ?_
        exact zr_ireturn (pc := 21) dX3_kilnAt_21 rfl (zq_eq h rfl)

set_option maxRecDepth 100000 in
set_option maxHeartbeats 4000000 in
theorem ct_X3_kilnAt {g : zt_G} {M : zm_M} {l : Nat} {q : Int → zm_M → Prop} (hl : zp_land l) (hw : LW (lvX M l)) {p : Int} (hp : zi p) (h : q (kiA (lvX M l) p) M) : zc_K g yX3_kilnAt mX3_kilnAt [zv_r l, zv_i p] M (zq_I q) := by
  refine zc_of (ls := [some (zv_r l), some (zv_i p)]) (by decide) rfl ⟨rfl, rfl⟩ (Nat.le_of_ble_eq_true rfl) rfl ?_
  refine zr_iconst (pc := 0) dX3_kilnAt_0 ?_
  refine zr_istore_n (pc := 1) dX3_kilnAt_1 rfl (Nat.le_of_ble_eq_true rfl) rfl ?_
  exact lp_X3_kilnAt hl hw hp _ _ rfl (Int.le_refl 0) (yXk hw).1 (by rw [Int.sub_zero]; exact h)

set_option maxRecDepth 100000 in
set_option maxHeartbeats 4000000 in
theorem lp_X3_bitsOf {g : zt_G} {M : zm_M} {l : Nat} {q : Int → zm_M → Prop} (hl : zp_land l) (hw : LW (lvX M l)) {t : Int} (ht : 0 ≤ t ∧ t < M l 3) (h : q (bitG (lvX M l) t) M) : ∀ (nn : Nat) (b k : Int), (M (l + 2) t - k).toNat = nn → 0 ≤ k → k ≤ M (l + 2) t → b = fo (fun k b => zb_or b (zb_shl 1 ((lvX M l).2.2.2 t k))) 0 k.toNat → zc_Z g mX3_bitsOf 4 [some (zv_r l), some (zv_i t), some (zv_i b), some (zv_i k)] [] M (zq_I q) := by
  intro nn
  induction nn using Nat.strongRecOn with
  | ind nn ih =>
    intro b k hn h0 h1 hb
    have hw1 := yXk hw
    have hw2 := yX hw ht
    refine zr_iload_n (pc := 4) dX3_bitsOf_4 rfl rfl ?_
    refine zr_aload_n (pc := 5) dX3_bitsOf_5 rfl rfl ?_
    refine zr_getR (pc := 6) fX3_15 hl.1 rfl rfl dX3_bitsOf_6 ?_
    refine zr_iload_n (pc := 9) dX3_bitsOf_9 rfl rfl ?_
    refine zr_iaload (pc := 10) hl.2.2.1 (by omega) dX3_bitsOf_10 ?_
    refine zi_icmp_ge (pc := 11) (tgt := 31) dX3_bitsOf_11 (by decide) (by omega) (by omega) (fun h11 => ?_) (fun h11 => ?_)
    · refine zr_iload_n (pc := 31) dX3_bitsOf_31 rfl rfl ?_
      exact zr_ireturn (pc := 32) dX3_bitsOf_32 rfl (zq_eq h (by unfold bitG; rw [hb, lX_d ht, show k = M (l + 2) t by omega]))
    · refine zr_iload_n (pc := 14) dX3_bitsOf_14 rfl rfl ?_
      refine zr_iconst (pc := 15) dX3_bitsOf_15 ?_
      refine zr_aload_n (pc := 16) dX3_bitsOf_16 rfl rfl ?_
      refine zr_iload_n (pc := 17) dX3_bitsOf_17 rfl rfl ?_
      refine zr_iload_n (pc := 18) dX3_bitsOf_18 rfl rfl ?_
      refine zr_inv2I (pc := 19) rfl sX3_39 hl.1 rfl rfl rfl dX3_bitsOf_19 ?_
      refine ct_X3_layerOf hl (by omega) (by omega) ?_
      refine zr_ishl (pc := 22) dX3_bitsOf_22 ?_
      refine zr_ior (pc := 23) dX3_bitsOf_23 ?_
      refine zr_istore_n (pc := 24) dX3_bitsOf_24 rfl (Nat.le_of_ble_eq_true rfl) rfl ?_
      refine zr_iinc (pc := 25) dX3_bitsOf_25 rfl (Nat.le_of_ble_eq_true rfl) rfl ?_
      refine zr_goto (pc := 28) (tgt := 4) dX3_bitsOf_28 (by decide) ?_
      exact ih _ (by omega) _ _ rfl (by omega) (by omega) (by rw [fo_s h0, ← hb, lX_y ht ⟨h0, by omega⟩])

set_option maxRecDepth 100000 in
set_option maxHeartbeats 4000000 in
theorem ct_X3_bitsOf {g : zt_G} {M : zm_M} {l : Nat} {q : Int → zm_M → Prop} (hl : zp_land l) (hw : LW (lvX M l)) {t : Int} (ht : 0 ≤ t ∧ t < M l 3) (h : q (bitG (lvX M l) t) M) : zc_K g yX3_bitsOf mX3_bitsOf [zv_r l, zv_i t] M (zq_I q) := by
  refine zc_of (ls := [some (zv_r l), some (zv_i t)]) (by decide) rfl ⟨rfl, rfl⟩ (Nat.le_of_ble_eq_true rfl) rfl ?_
  have hw2 := yX hw ht
  refine zr_iconst (pc := 0) dX3_bitsOf_0 ?_
  refine zr_istore_n (pc := 1) dX3_bitsOf_1 rfl (Nat.le_of_ble_eq_true rfl) rfl ?_
  refine zr_iconst (pc := 2) dX3_bitsOf_2 ?_
  refine zr_istore_n (pc := 3) dX3_bitsOf_3 rfl (Nat.le_of_ble_eq_true rfl) rfl ?_
  exact lp_X3_bitsOf hl hw ht h _ _ _ rfl (by omega) (by omega) rfl

set_option maxRecDepth 100000 in
set_option maxHeartbeats 4000000 in
theorem lp_X3_figuresOf {g : zt_G} {M : zm_M} {l : Nat} {q : Int → zm_M → Prop} (hl : zp_land l) (hw : LW (lvX M l)) {t : Int} (ht : 0 ≤ t ∧ t < M l 3) (h : q (figG (lvX M l) t) M) : ∀ (nn : Nat) (b k : Int), (M (l + 2) t - k).toNat = nn → 0 ≤ k → k ≤ M (l + 2) t → b = fo (fun k v => 10 * v + (lvX M l).2.2.2 t k + 1) 0 k.toNat → zc_Z g mX3_figuresOf 4 [some (zv_r l), some (zv_i t), some (zv_i b), some (zv_i k)] [] M (zq_I q) := by
  intro nn
  induction nn using Nat.strongRecOn with
  | ind nn ih =>
    intro b k hn h0 h1 hb
    have hw1 := yXk hw
    have hw2 := yX hw ht
    refine zr_iload_n (pc := 4) dX3_figuresOf_4 rfl rfl ?_
    refine zr_aload_n (pc := 5) dX3_figuresOf_5 rfl rfl ?_
    refine zr_getR (pc := 6) fX3_15 hl.1 rfl rfl dX3_figuresOf_6 ?_
    refine zr_iload_n (pc := 9) dX3_figuresOf_9 rfl rfl ?_
    refine zr_iaload (pc := 10) hl.2.2.1 (by omega) dX3_figuresOf_10 ?_
    refine zi_icmp_ge (pc := 11) (tgt := 34) dX3_figuresOf_11 (by decide) (by omega) (by omega) (fun h11 => ?_) (fun h11 => ?_)
    · refine zr_iload_n (pc := 34) dX3_figuresOf_34 rfl rfl ?_
      exact zr_ireturn (pc := 35) dX3_figuresOf_35 rfl (zq_eq h (by unfold figG; rw [hb, lX_d ht, show k = M (l + 2) t by omega]))
    · refine zr_bipush (pc := 14) dX3_figuresOf_14 (by decide) ?_
      refine zr_iload_n (pc := 16) dX3_figuresOf_16 rfl rfl ?_
      refine zr_imul (pc := 17) dX3_figuresOf_17 ?_
      refine zr_aload_n (pc := 18) dX3_figuresOf_18 rfl rfl ?_
      refine zr_iload_n (pc := 19) dX3_figuresOf_19 rfl rfl ?_
      refine zr_iload_n (pc := 20) dX3_figuresOf_20 rfl rfl ?_
      refine zr_inv2I (pc := 21) rfl sX3_39 hl.1 rfl rfl rfl dX3_figuresOf_21 ?_
      refine ct_X3_layerOf hl (by omega) (by omega) ?_
      refine zr_iadd (pc := 24) dX3_figuresOf_24 ?_
      refine zr_iconst (pc := 25) dX3_figuresOf_25 ?_
      refine zr_iadd (pc := 26) dX3_figuresOf_26 ?_
      refine zr_istore_n (pc := 27) dX3_figuresOf_27 rfl (Nat.le_of_ble_eq_true rfl) rfl ?_
      refine zr_iinc (pc := 28) dX3_figuresOf_28 rfl (Nat.le_of_ble_eq_true rfl) rfl ?_
      refine zr_goto (pc := 31) (tgt := 4) dX3_figuresOf_31 (by decide) ?_
      exact ih _ (by omega) _ _ rfl (by omega) (by omega) (by rw [fo_s h0, ← hb, lX_y ht ⟨h0, by omega⟩])

set_option maxRecDepth 100000 in
set_option maxHeartbeats 4000000 in
theorem ct_X3_figuresOf {g : zt_G} {M : zm_M} {l : Nat} {q : Int → zm_M → Prop} (hl : zp_land l) (hw : LW (lvX M l)) {t : Int} (ht : 0 ≤ t ∧ t < M l 3) (h : q (figG (lvX M l) t) M) : zc_K g yX3_figuresOf mX3_figuresOf [zv_r l, zv_i t] M (zq_I q) := by
  refine zc_of (ls := [some (zv_r l), some (zv_i t)]) (by decide) rfl ⟨rfl, rfl⟩ (Nat.le_of_ble_eq_true rfl) rfl ?_
  have hw2 := yX hw ht
  refine zr_iconst (pc := 0) dX3_figuresOf_0 ?_
  refine zr_istore_n (pc := 1) dX3_figuresOf_1 rfl (Nat.le_of_ble_eq_true rfl) rfl ?_
  refine zr_iconst (pc := 2) dX3_figuresOf_2 ?_
  refine zr_istore_n (pc := 3) dX3_figuresOf_3 rfl (Nat.le_of_ble_eq_true rfl) rfl ?_
  exact lp_X3_figuresOf hl hw ht h _ _ _ rfl (by omega) (by omega) rfl

set_option maxRecDepth 100000 in
set_option maxHeartbeats 4000000 in
theorem lp_X3_bitsOfAll {g : zt_G} {M : zm_M} {l : Nat} {q : Int → zm_M → Prop} (hl : zp_land l) (hw : LW (lvX M l)) (h : q (bitL (lvX M l)) M) : ∀ (nn : Nat) (b k : Int), (M l 3 - k).toNat = nn → 0 ≤ k → k ≤ M l 3 → b = fo (fun g b => zb_or b (bitG (lvX M l) g)) 0 k.toNat → zc_Z g mX3_bitsOfAll 4 [some (zv_r l), some (zv_i b), some (zv_i k)] [] M (zq_I q) := by
  intro nn
  induction nn using Nat.strongRecOn with
  | ind nn ih =>
    intro b k hn h0 h1 hb
    have hw1 := yXk hw
    refine zr_iload_n (pc := 4) dX3_bitsOfAll_4 rfl rfl ?_
    refine zr_aload_n (pc := 5) dX3_bitsOfAll_5 rfl rfl ?_
    refine zr_getI (pc := 6) (z := 3) fX3_21 hl.1 rfl rfl rfl dX3_bitsOfAll_6 ?_
    refine zi_icmp_ge (pc := 9) (tgt := 26) dX3_bitsOfAll_9 (by decide) (by omega) (by omega) (fun h9 => ?_) (fun h9 => ?_)
    · refine zr_iload_n (pc := 26) dX3_bitsOfAll_26 rfl rfl ?_
      exact zr_ireturn (pc := 27) dX3_bitsOfAll_27 rfl (zq_eq h (by unfold bitL; rw [hb, show k = M l 3 by omega]; rfl))
    · refine zr_iload_n (pc := 12) dX3_bitsOfAll_12 rfl rfl ?_
      refine zr_aload_n (pc := 13) dX3_bitsOfAll_13 rfl rfl ?_
      refine zr_iload_n (pc := 14) dX3_bitsOfAll_14 rfl rfl ?_
      refine zr_inv1I (pc := 15) rfl sX3_35 hl.1 rfl rfl rfl dX3_bitsOfAll_15 ?_
      refine ct_X3_bitsOf hl hw ⟨h0, by omega⟩ ?_
      refine zr_ior (pc := 18) dX3_bitsOfAll_18 ?_
      refine zr_istore_n (pc := 19) dX3_bitsOfAll_19 rfl (Nat.le_of_ble_eq_true rfl) rfl ?_
      refine zr_iinc (pc := 20) dX3_bitsOfAll_20 rfl (Nat.le_of_ble_eq_true rfl) rfl ?_
      refine zr_goto (pc := 23) (tgt := 4) dX3_bitsOfAll_23 (by decide) ?_
      exact ih _ (by omega) _ _ rfl (by omega) (by omega) (by rw [fo_s h0, ← hb])

set_option maxRecDepth 100000 in
set_option maxHeartbeats 4000000 in
theorem ct_X3_bitsOfAll {g : zt_G} {M : zm_M} {l : Nat} {q : Int → zm_M → Prop} (hl : zp_land l) (hw : LW (lvX M l)) (h : q (bitL (lvX M l)) M) : zc_K g yX3_bitsOfAll mX3_bitsOfAll [zv_r l] M (zq_I q) := by
  refine zc_of (ls := [some (zv_r l)]) (by decide) rfl ⟨rfl, rfl⟩ (Nat.le_of_ble_eq_true rfl) rfl ?_
  have hw1 := yXk hw
  refine zr_iconst (pc := 0) dX3_bitsOfAll_0 ?_
  refine zr_istore_n (pc := 1) dX3_bitsOfAll_1 rfl (Nat.le_of_ble_eq_true rfl) rfl ?_
  refine zr_iconst (pc := 2) dX3_bitsOfAll_2 ?_
  refine zr_istore_n (pc := 3) dX3_bitsOfAll_3 rfl (Nat.le_of_ble_eq_true rfl) rfl ?_
  exact lp_X3_bitsOfAll hl hw h _ _ _ rfl (by omega) (by omega) rfl

set_option maxRecDepth 100000 in
set_option maxHeartbeats 4000000 in
theorem lp_X3_weightOf {g : zt_G} {M : zm_M} {l : Nat} {q : Int → zm_M → Prop} (hl : zp_land l) (hw : LW (lvX M l)) {cd x : Int} (hcd : 0 ≤ cd ∧ cd < 16) (h : q (wgt (lvX M l) cd x) M) : ∀ (nn : Nat) (b k : Int), (M l 3 - k).toNat = nn → 0 ≤ k → k ≤ M l 3 → b = fo (fun g w => w * (if bt cd g = true then x else 10 - x)) 1 k.toNat → zc_Z g mX3_weightOf 5 [some (zv_r l), some (zv_i cd), some (zv_i x), some (zv_i b), some (zv_i k)] [] M (zq_I q) := by
  intro nn
  induction nn using Nat.strongRecOn with
  | ind nn ih =>
    intro b k hn h0 h1 hb
    have hw1 := yXk hw
    refine zr_iload (pc := 5) dX3_weightOf_5 rfl ?_
    refine zr_aload_n (pc := 7) dX3_weightOf_7 rfl rfl ?_
    refine zr_getI (pc := 8) (z := 3) fX3_21 hl.1 rfl rfl rfl dX3_weightOf_8 ?_
    refine zi_icmp_ge (pc := 11) (tgt := 40) dX3_weightOf_11 (by decide) (by omega) (by omega) (fun h11 => ?_) (fun h11 => ?_)
    · refine zr_iload_n (pc := 40) dX3_weightOf_40 rfl rfl ?_
      exact zr_ireturn (pc := 41) dX3_weightOf_41 rfl (zq_eq h (by unfold wgt; rw [hb, show k = M l 3 by omega]; rfl))
    · have hb4 := and4 hcd ⟨h0, by omega⟩
      refine zr_iload_n (pc := 14) dX3_weightOf_14 rfl rfl ?_
      refine zr_iload_n (pc := 15) dX3_weightOf_15 rfl rfl ?_
      refine zr_iconst (pc := 16) dX3_weightOf_16 ?_
      refine zr_iload (pc := 17) dX3_weightOf_17 rfl ?_
      refine zr_ishl (pc := 19) dX3_weightOf_19 ?_
      refine zr_iand (pc := 20) dX3_weightOf_20 ?_
      refine zi_if_eq (pc := 21) (tgt := 28) dX3_weightOf_21 (by decide) (by omega) (fun h21 => ?_) (fun h21 => ?_)
      · have hbt : ¬ bt cd k = true := by rw [hb4.1.mp h21]; decide
        refine zr_bipush (pc := 28) dX3_weightOf_28 (by decide) ?_
        refine zr_iload_n (pc := 30) dX3_weightOf_30 rfl rfl ?_
        refine zr_isub (pc := 31) dX3_weightOf_31 ?_
        refine zr_imul (pc := 32) dX3_weightOf_32 ?_
        refine zr_istore_n (pc := 33) dX3_weightOf_33 rfl (Nat.le_of_ble_eq_true rfl) rfl ?_
        refine zr_iinc (pc := 34) dX3_weightOf_34 rfl (Nat.le_of_ble_eq_true rfl) rfl ?_
        refine zr_goto (pc := 37) (tgt := 5) dX3_weightOf_37 (by decide) ?_
        exact ih _ (by omega) _ _ rfl (by omega) (by omega) (by rw [fo_s h0, ← hb, if_neg hbt])
      · have hbt : bt cd k = true := by
          cases hx : bt cd k with
          | true => rfl
          | false => exact absurd (hb4.1.mpr hx) h21
        refine zr_iload_n (pc := 24) dX3_weightOf_24 rfl rfl ?_
        refine zr_goto (pc := 25) (tgt := 32) dX3_weightOf_25 (by decide) ?_
        refine zr_imul (pc := 32) dX3_weightOf_32 ?_
        refine zr_istore_n (pc := 33) dX3_weightOf_33 rfl (Nat.le_of_ble_eq_true rfl) rfl ?_
        refine zr_iinc (pc := 34) dX3_weightOf_34 rfl (Nat.le_of_ble_eq_true rfl) rfl ?_
        refine zr_goto (pc := 37) (tgt := 5) dX3_weightOf_37 (by decide) ?_
        exact ih _ (by omega) _ _ rfl (by omega) (by omega) (by rw [fo_s h0, ← hb, if_pos hbt])

set_option maxRecDepth 100000 in
set_option maxHeartbeats 4000000 in
theorem ct_X3_weightOf {g : zt_G} {M : zm_M} {l : Nat} {q : Int → zm_M → Prop} (hl : zp_land l) (hw : LW (lvX M l)) {cd x : Int} (hcd : 0 ≤ cd ∧ cd < 16) (h : q (wgt (lvX M l) cd x) M) : zc_K g yX3_weightOf mX3_weightOf [zv_r l, zv_i cd, zv_i x] M (zq_I q) := by
  refine zc_of (ls := [some (zv_r l), some (zv_i cd), some (zv_i x)]) (by decide) rfl ⟨rfl, rfl⟩ (Nat.le_of_ble_eq_true rfl) rfl ?_
  have hw1 := yXk hw
  refine zr_iconst (pc := 0) dX3_weightOf_0 ?_
  refine zr_istore_n (pc := 1) dX3_weightOf_1 rfl (Nat.le_of_ble_eq_true rfl) rfl ?_
  refine zr_iconst (pc := 2) dX3_weightOf_2 ?_
  refine zr_istore (pc := 3) dX3_weightOf_3 (Nat.le_of_ble_eq_true rfl) rfl ?_
  exact lp_X3_weightOf hl hw hcd h _ _ _ rfl (by omega) (by omega) rfl

set_option maxRecDepth 100000 in
set_option maxHeartbeats 4000000 in
theorem ct_X3_clear {g : zt_G} {M : zm_M} {l : Nat} {q : zm_M → Prop} (hl : zp_land l) (h : q (zm_put M l 3 0)) : zc_K g yX3_clear mX3_clear [zv_r l] M (zq_V q) := by
  refine zc_of (ls := [some (zv_r l)]) (by decide) rfl ⟨rfl, rfl⟩ (Nat.le_of_ble_eq_true rfl) rfl ?_
  refine zr_aload_n (pc := 0) dX3_clear_0 rfl rfl ?_
  refine zr_iconst (pc := 1) dX3_clear_1 ?_
  refine zr_putI (pc := 2) (z := 3) fX3_21 hl.1 rfl fwX3_3 rfl rfl dX3_clear_2 ?_
  exact zr_return (pc := 5) dX3_clear_5 rfl h

def lAdK (p : Int) (L : Ln) : Ln := (L.1 + 1, upI L.2.1 L.1 p, upI L.2.2.1 L.1 0, L.2.2.2)
def lAdL (a : Int) (L : Ln) : Ln := (L.1, L.2.1, upI L.2.2.1 (L.1 - 1) (L.2.2.1 (L.1 - 1) + 1), fun g k => if g = L.1 - 1 ∧ k = L.2.2.1 (L.1 - 1) then a else L.2.2.2 g k)
theorem msk_s {n : Int} {f : Int → Int} {v : Int} (h : 0 ≤ n) : msk (n + 1) (upI f n v) = upI (msk n f) n v := by
  funext i
  unfold msk upI
  by_cases hi : i = n
  · subst hi
    rw [if_pos ⟨h, by omega⟩]
    simp
  · by_cases h2 : 0 ≤ i ∧ i < n
    · simp only [if_neg hi, if_pos h2]
      rw [if_pos ⟨h2.1, by omega⟩]
    · simp only [if_neg hi, if_neg h2]
      rw [if_neg (by omega)]
theorem lvX_adK {M : zm_M} {l : Nat} {p : Int} (h : 0 ≤ M l 3) : lvX (zm_put (zm_put (zm_put M (l + 1) (M l 3) p) (l + 2) (M l 3) 0) l 3 (M l 3 + 1)) l = lAdK p (lvX M l) := by
  have a0 : zm_put (zm_put (zm_put M (l + 1) (M l 3) p) (l + 2) (M l 3) 0) l 3 (M l 3 + 1) l 3 = M l 3 + 1 := by simp [zm_put]
  have a1 : zm_put (zm_put (zm_put M (l + 1) (M l 3) p) (l + 2) (M l 3) 0) l 3 (M l 3 + 1) (l + 1) = upI (M (l + 1)) (M l 3) p := by
    rw [put_ne _ _ _ (show l + 1 ≠ l by omega), put_ne _ _ _ (show l + 1 ≠ l + 2 by omega), put_up]
  have a2 : zm_put (zm_put (zm_put M (l + 1) (M l 3) p) (l + 2) (M l 3) 0) l 3 (M l 3 + 1) (l + 2) = upI (M (l + 2)) (M l 3) 0 := by
    rw [put_ne _ _ _ (show l + 2 ≠ l by omega), put_up, put_ne _ _ _ (show l + 2 ≠ l + 1 by omega)]
  have a3 : zm_put (zm_put (zm_put M (l + 1) (M l 3) p) (l + 2) (M l 3) 0) l 3 (M l 3 + 1) (l + 3) = M (l + 3) := by
    rw [put_ne _ _ _ (show l + 3 ≠ l by omega), put_ne _ _ _ (show l + 3 ≠ l + 2 by omega), put_ne _ _ _ (show l + 3 ≠ l + 1 by omega)]
  unfold lvX lyX lAdK
  rw [a0, a1, a2, a3, msk_s h, msk_s h]
  refine Prod.ext rfl (Prod.ext rfl (Prod.ext rfl ?_))
  funext g k
  show (if _ then _ else _) = (if _ then _ else _)
  unfold upI
  by_cases hg : g = M l 3
  · subst hg
    rw [if_neg (by simp only [if_true]; omega), if_neg (by omega)]
  · simp only [if_neg hg]
    by_cases h2 : (0 ≤ g ∧ g < M l 3) ∧ 0 ≤ k ∧ k < M (l + 2) g
    · rw [if_pos ⟨⟨h2.1.1, by omega⟩, h2.2⟩, if_pos h2]
    · rw [if_neg (fun x => h2 ⟨⟨x.1.1, by omega⟩, x.2⟩), if_neg h2]
theorem lvX_adL {M : zm_M} {l : Nat} {a : Int} (h : 0 < M l 3 ∧ M l 3 ≤ 4) (hd : 0 ≤ M (l + 2) (M l 3 - 1) ∧ M (l + 2) (M l 3 - 1) < 4) (hdd : ∀ g, 0 ≤ g → g < M l 3 → 0 ≤ M (l + 2) g ∧ M (l + 2) g ≤ 4) : lvX (zm_put (zm_put M (l + 3) ((M l 3 - 1) * 4 + M (l + 2) (M l 3 - 1)) a) (l + 2) (M l 3 - 1) (M (l + 2) (M l 3 - 1) + 1)) l = lAdL a (lvX M l) := by
  have a0 : zm_put (zm_put M (l + 3) ((M l 3 - 1) * 4 + M (l + 2) (M l 3 - 1)) a) (l + 2) (M l 3 - 1) (M (l + 2) (M l 3 - 1) + 1) l = M l := by
    rw [put_ne _ _ _ (show l ≠ l + 2 by omega), put_ne _ _ _ (show l ≠ l + 3 by omega)]
  have a1 : zm_put (zm_put M (l + 3) ((M l 3 - 1) * 4 + M (l + 2) (M l 3 - 1)) a) (l + 2) (M l 3 - 1) (M (l + 2) (M l 3 - 1) + 1) (l + 1) = M (l + 1) := by
    rw [put_ne _ _ _ (show l + 1 ≠ l + 2 by omega), put_ne _ _ _ (show l + 1 ≠ l + 3 by omega)]
  have a2 : zm_put (zm_put M (l + 3) ((M l 3 - 1) * 4 + M (l + 2) (M l 3 - 1)) a) (l + 2) (M l 3 - 1) (M (l + 2) (M l 3 - 1) + 1) (l + 2) = upI (M (l + 2)) (M l 3 - 1) (M (l + 2) (M l 3 - 1) + 1) := by
    rw [put_up, put_ne _ _ _ (show l + 2 ≠ l + 3 by omega)]
  have a3 : zm_put (zm_put M (l + 3) ((M l 3 - 1) * 4 + M (l + 2) (M l 3 - 1)) a) (l + 2) (M l 3 - 1) (M (l + 2) (M l 3 - 1) + 1) (l + 3) = upI (M (l + 3)) ((M l 3 - 1) * 4 + M (l + 2) (M l 3 - 1)) a := by
    rw [put_ne _ _ _ (show l + 3 ≠ l + 2 by omega), put_up]
  have e1 : msk (M l 3) (M (l + 2)) (M l 3 - 1) = M (l + 2) (M l 3 - 1) := msk_in (by omega) (by omega)
  unfold lvX lyX lAdL
  rw [a0, a1, a2, a3, msk_up (by omega) (by omega)]
  simp only [e1]
  refine Prod.ext rfl (Prod.ext rfl (Prod.ext rfl ?_))
  funext g k
  show (if _ then _ else _) = (if _ then _ else _)
  unfold upI
  by_cases hg : g = M l 3 - 1
  · subst hg
    simp only [if_true, true_and]
    by_cases hk : k = M (l + 2) (M l 3 - 1)
    · subst hk
      simp only [if_true]
      rw [if_pos ⟨⟨by omega, by omega⟩, by omega, by omega⟩]
    · rw [if_neg hk]
      rw [if_neg (fun x => hk (by omega) : ¬ (M l 3 - 1) * 4 + k = (M l 3 - 1) * 4 + M (l + 2) (M l 3 - 1))]
      by_cases h2 : (0 ≤ M l 3 - 1 ∧ M l 3 - 1 < M l 3) ∧ 0 ≤ k ∧ k < M (l + 2) (M l 3 - 1)
      · rw [if_pos ⟨h2.1, h2.2.1, by omega⟩, if_pos h2]
      · rw [if_neg (fun x => h2 ⟨x.1, x.2.1, by omega⟩), if_neg h2]
  · simp only [if_neg hg, if_neg (fun x => hg x.1 : ¬ (g = M l 3 - 1 ∧ k = M (l + 2) (M l 3 - 1)))]
    by_cases h2 : (0 ≤ g ∧ g < M l 3) ∧ 0 ≤ k ∧ k < M (l + 2) g
    · have h3 := hdd g h2.1.1 h2.1.2
      rw [if_pos h2, if_pos h2, if_neg (by omega)]
    · rw [if_neg h2, if_neg h2]
theorem lvX_cpy {M M2 : zm_M} {a b : Nat} (h0 : M2 b 3 = M a 3) (h1 : ∀ i, 0 ≤ i → i < 4 → M2 (b + 1) i = M (a + 1) i) (h2 : ∀ i, 0 ≤ i → i < 4 → M2 (b + 2) i = M (a + 2) i) (h3 : ∀ i, 0 ≤ i → i < 16 → M2 (b + 3) i = M (a + 3) i) (hw : LW (lvX M a)) : lvX M2 b = lvX M a := by
  have hk := yXk hw
  unfold lvX lyX
  rw [h0]
  have e1 : msk (M a 3) (M2 (b + 1)) = msk (M a 3) (M (a + 1)) := by
    funext i
    unfold msk
    split
    · exact h1 i (by omega) (by omega)
    · rfl
  have e2 : msk (M a 3) (M2 (b + 2)) = msk (M a 3) (M (a + 2)) := by
    funext i
    unfold msk
    split
    · exact h2 i (by omega) (by omega)
    · rfl
  rw [e1, e2]
  refine Prod.ext rfl (Prod.ext rfl (Prod.ext rfl ?_))
  funext g k
  show (if _ then _ else _) = (if _ then _ else _)
  by_cases hg : 0 ≤ g ∧ g < M a 3
  · have hd := (yX hw hg).2
    rw [h2 g (by omega) (by omega)]
    by_cases h4 : (0 ≤ g ∧ g < M a 3) ∧ 0 ≤ k ∧ k < M (a + 2) g
    · rw [if_pos h4, if_pos h4, h3 _ (by omega) (by omega)]
    · rw [if_neg h4, if_neg h4]
  · rw [if_neg (fun x => hg x.1), if_neg (fun x => hg x.1)]
set_option maxRecDepth 100000 in
set_option maxHeartbeats 4000000 in
theorem ct_X3_addKiln {g : zt_G} {M : zm_M} {l : Nat} {q : zm_M → Prop} (hl : zp_land l) {p : Int} (hk : 0 ≤ M l 3 ∧ M l 3 < 4) (h : q (zm_put (zm_put (zm_put M (l + 1) (M l 3) p) (l + 2) (M l 3) 0) l 3 (M l 3 + 1))) : zc_K g yX3_addKiln mX3_addKiln [zv_r l, zv_i p] M (zq_V q) := by
  refine zc_of (ls := [some (zv_r l), some (zv_i p)]) (by decide) rfl ⟨rfl, rfl⟩ (Nat.le_of_ble_eq_true rfl) rfl ?_
  have a0 : zm_put M (l + 1) (M l 3) p l 3 = M l 3 := by rw [put_ne _ _ _ (show l ≠ l + 1 by omega)]
  have a1 : zm_put (zm_put M (l + 1) (M l 3) p) (l + 2) (M l 3) 0 l 3 = M l 3 := by rw [put_ne _ _ _ (show l ≠ l + 2 by omega), a0]
  refine zr_aload_n (pc := 0) dX3_addKiln_0 rfl rfl ?_
  refine zr_getI (pc := 1) (z := 3) fX3_21 hl.1 rfl rfl rfl dX3_addKiln_1 ?_
  refine zr_iconst (pc := 4) dX3_addKiln_4 ?_
  refine zi_icmp_ge (pc := 5) (tgt := 38) dX3_addKiln_5 (by decide) (by omega) (by omega) (fun h5 => ?_) (fun h5 => ?_)
  · exact zr_return (pc := 38) dX3_addKiln_38 rfl (absurd h5 (by omega))
  · refine zr_aload_n (pc := 8) dX3_addKiln_8 rfl rfl ?_
    refine zr_getR (pc := 9) fX3_9 hl.1 rfl rfl dX3_addKiln_9 ?_
    refine zr_aload_n (pc := 12) dX3_addKiln_12 rfl rfl ?_
    refine zr_getI (pc := 13) (z := 3) fX3_21 hl.1 rfl rfl rfl dX3_addKiln_13 ?_
    refine zr_iload_n (pc := 16) dX3_addKiln_16 rfl rfl ?_
    refine zr_iastore (pc := 17) hl.2.1 (by omega) dX3_addKiln_17 ?_
    refine zr_aload_n (pc := 18) dX3_addKiln_18 rfl rfl ?_
    refine zr_getR (pc := 19) fX3_15 hl.1 rfl rfl dX3_addKiln_19 ?_
    refine zr_aload_n (pc := 22) dX3_addKiln_22 rfl rfl ?_
    refine zr_getI (pc := 23) (z := 3) fX3_21 hl.1 rfl rfl rfl dX3_addKiln_23 ?_
    rw [a0]
    refine zr_iconst (pc := 26) dX3_addKiln_26 ?_
    refine zr_iastore (pc := 27) hl.2.2.1 (by omega) dX3_addKiln_27 ?_
    refine zr_aload_n (pc := 28) dX3_addKiln_28 rfl rfl ?_
    refine zr_dup_r (pc := 29) dX3_addKiln_29 ?_
    refine zr_getI (pc := 30) (z := 3) fX3_21 hl.1 rfl rfl rfl dX3_addKiln_30 ?_
    rw [a1]
    refine zr_iconst (pc := 33) dX3_addKiln_33 ?_
    refine zr_iadd (pc := 34) dX3_addKiln_34 ?_
    refine zr_putI (pc := 35) (z := 3) fX3_21 hl.1 rfl fwX3_3 rfl rfl dX3_addKiln_35 ?_
    exact zr_return (pc := 38) dX3_addKiln_38 rfl h

theorem bitG_c {M : zm_M} {l : Nat} : True := trivial
set_option maxRecDepth 100000 in
set_option maxHeartbeats 4000000 in
theorem ct_X3_addLayer {g : zt_G} {M : zm_M} {l : Nat} {q : Int → zm_M → Prop} (hl : zp_land l) (hw : LW (lvX M l)) {a : Int} (hk : 0 < M l 3) (ha : 0 ≤ a ∧ a < 6) (hno : (4 ≤ M (l + 2) (M l 3 - 1) ∨ bt (bitG (lvX M l) (M l 3 - 1)) a = true) → q 0 M) (hyes : ¬ (4 ≤ M (l + 2) (M l 3 - 1) ∨ bt (bitG (lvX M l) (M l 3 - 1)) a = true) → q 1 (zm_put (zm_put M (l + 3) ((M l 3 - 1) * 4 + M (l + 2) (M l 3 - 1)) a) (l + 2) (M l 3 - 1) (M (l + 2) (M l 3 - 1) + 1))) : zc_K g yX3_addLayer mX3_addLayer [zv_r l, zv_i a] M (zq_I q) := by
  refine zc_of (ls := [some (zv_r l), some (zv_i a)]) (by decide) rfl ⟨rfl, rfl⟩ (Nat.le_of_ble_eq_true rfl) rfl ?_
  have hw1 := yXk hw
  have hw2 := yX hw (g := M l 3 - 1) ⟨by omega, by omega⟩
  have hb := bitG_in hw (M l 3 - 1)
  have hba := and6 hb ha
  have a0 : zm_put M (l + 3) ((M l 3 - 1) * 4 + M (l + 2) (M l 3 - 1)) a (l + 2) (M l 3 - 1) = M (l + 2) (M l 3 - 1) := by rw [put_ne _ _ _ (show l + 2 ≠ l + 3 by omega)]
  refine zr_aload_n (pc := 0) dX3_addLayer_0 rfl rfl ?_
  refine zr_getI (pc := 1) (z := 3) fX3_21 hl.1 rfl rfl rfl dX3_addLayer_1 ?_
  refine zr_iconst (pc := 4) dX3_addLayer_4 ?_
  refine zr_isub (pc := 5) dX3_addLayer_5 ?_
  refine zr_istore_n (pc := 6) dX3_addLayer_6 rfl (Nat.le_of_ble_eq_true rfl) rfl ?_
  refine zr_aload_n (pc := 7) dX3_addLayer_7 rfl rfl ?_
  refine zr_iload_n (pc := 8) dX3_addLayer_8 rfl rfl ?_
  refine zr_inv1I (pc := 9) rfl sX3_31 hl.1 rfl rfl rfl dX3_addLayer_9 ?_
  refine ct_X3_has hl hw (by omega) ?_
  refine zr_ifb_eq (pc := 12) (tgt := 37) dX3_addLayer_12 (by decide) (fun h12 => ?_) (fun h12 => ?_)
  · refine zr_iconst (pc := 37) dX3_addLayer_37 ?_
    exact zr_zreturn (pc := 38) dX3_addLayer_38 rfl (by decide) (absurd (show 0 ≤ M l 3 - 1 ∧ M l 3 - 1 < M l 3 by omega) h12)
  · refine zr_aload_n (pc := 15) dX3_addLayer_15 rfl rfl ?_
    refine zr_getR (pc := 16) fX3_15 hl.1 rfl rfl dX3_addLayer_16 ?_
    refine zr_iload_n (pc := 19) dX3_addLayer_19 rfl rfl ?_
    refine zr_iaload (pc := 20) hl.2.2.1 (by omega) dX3_addLayer_20 ?_
    refine zr_iconst (pc := 21) dX3_addLayer_21 ?_
    refine zi_icmp_ge (pc := 22) (tgt := 37) dX3_addLayer_22 (by decide) (by omega) (by omega) (fun h22 => ?_) (fun h22 => ?_)
    · refine zr_iconst (pc := 37) dX3_addLayer_37 ?_
      exact zr_zreturn (pc := 38) dX3_addLayer_38 rfl (by decide) (hno (Or.inl h22))
    · refine zr_aload_n (pc := 25) dX3_addLayer_25 rfl rfl ?_
      refine zr_iload_n (pc := 26) dX3_addLayer_26 rfl rfl ?_
      refine zr_inv1I (pc := 27) rfl sX3_35 hl.1 rfl rfl rfl dX3_addLayer_27 ?_
      refine ct_X3_bitsOf hl hw (by omega) ?_
      refine zr_iconst (pc := 30) dX3_addLayer_30 ?_
      refine zr_iload_n (pc := 31) dX3_addLayer_31 rfl rfl ?_
      refine zr_ishl (pc := 32) dX3_addLayer_32 ?_
      refine zr_iand (pc := 33) dX3_addLayer_33 ?_
      refine zi_if_eq (pc := 34) (tgt := 39) dX3_addLayer_34 (by decide) (by omega) (fun h34 => ?_) (fun h34 => ?_)
      · refine zr_aload_n (pc := 39) dX3_addLayer_39 rfl rfl ?_
        refine zr_getR (pc := 40) fX3_18 hl.1 rfl rfl dX3_addLayer_40 ?_
        refine zr_iload_n (pc := 43) dX3_addLayer_43 rfl rfl ?_
        refine zr_iconst (pc := 44) dX3_addLayer_44 ?_
        refine zr_imul (pc := 45) dX3_addLayer_45 ?_
        refine zr_aload_n (pc := 46) dX3_addLayer_46 rfl rfl ?_
        refine zr_getR (pc := 47) fX3_15 hl.1 rfl rfl dX3_addLayer_47 ?_
        refine zr_iload_n (pc := 50) dX3_addLayer_50 rfl rfl ?_
        refine zr_iaload (pc := 51) hl.2.2.1 (by omega) dX3_addLayer_51 ?_
        refine zr_iadd (pc := 52) dX3_addLayer_52 ?_
        refine zr_iload_n (pc := 53) dX3_addLayer_53 rfl rfl ?_
        refine zr_iastore (pc := 54) hl.2.2.2 (by omega) dX3_addLayer_54 ?_
        refine zr_aload_n (pc := 55) dX3_addLayer_55 rfl rfl ?_
        refine zr_getR (pc := 56) fX3_15 hl.1 rfl rfl dX3_addLayer_56 ?_
        refine zr_iload_n (pc := 59) dX3_addLayer_59 rfl rfl ?_
        refine zr_dup2_ir (pc := 60) dX3_addLayer_60 ?_
        refine zr_iaload (pc := 61) hl.2.2.1 (by omega) dX3_addLayer_61 ?_
        rw [a0]
        refine zr_iconst (pc := 62) dX3_addLayer_62 ?_
        refine zr_iadd (pc := 63) dX3_addLayer_63 ?_
        refine zr_iastore (pc := 64) hl.2.2.1 (by omega) dX3_addLayer_64 ?_
        refine zr_iconst (pc := 65) dX3_addLayer_65 ?_
        exact zr_zreturn (pc := 66) dX3_addLayer_66 rfl (by decide) (hyes (fun x => x.elim (fun y => by omega) (fun y => by rw [hba.1.mp h34] at y; cases y)))
      · refine zr_iconst (pc := 37) dX3_addLayer_37 ?_
        exact zr_zreturn (pc := 38) dX3_addLayer_38 rfl (by decide) (hno (Or.inr (by cases hx : bt (bitG (lvX M l) (M l 3 - 1)) a with | true => rfl | false => exact absurd (hba.1.mpr hx) h34)))

set_option maxRecDepth 100000 in
set_option maxHeartbeats 4000000 in
theorem ct_X3_copyFrom {g : zt_G} {M : zm_M} {q : zm_M → Prop} (hw : LW (lvX M 4)) (h : ∀ M2, frL 13 M M2 → lvX M2 13 = lvX M 4 → q M2) : zc_K g yX3_copyFrom mX3_copyFrom [zv_r 13, zv_r 4] M (zq_V q) := by
  refine zc_of (ls := [some (zv_r 13), some (zv_r 4)]) (by decide) rfl ⟨rfl, rfl⟩ (Nat.le_of_ble_eq_true rfl) rfl ?_
  refine zr_aload_n (pc := 0) dX3_copyFrom_0 rfl rfl ?_
  refine zr_getR (pc := 1) fX3_9 lo_4 rfl rfl dX3_copyFrom_1 ?_
  refine zr_iconst (pc := 4) dX3_copyFrom_4 ?_
  refine zr_aload_n (pc := 5) dX3_copyFrom_5 rfl rfl ?_
  refine zr_getR (pc := 6) fX3_9 lo_13 rfl rfl dX3_copyFrom_6 ?_
  refine zr_iconst (pc := 9) dX3_copyFrom_9 ?_
  refine zr_iconst (pc := 10) dX3_copyFrom_10 ?_
  refine zr_copyi (pc := 11) rfl sX3_25 lo_5 lo_14 (by omega) (by omega) rfl dX3_copyFrom_11 ?_
  refine zr_aload_n (pc := 14) dX3_copyFrom_14 rfl rfl ?_
  refine zr_getR (pc := 15) fX3_15 lo_4 rfl rfl dX3_copyFrom_15 ?_
  refine zr_iconst (pc := 18) dX3_copyFrom_18 ?_
  refine zr_aload_n (pc := 19) dX3_copyFrom_19 rfl rfl ?_
  refine zr_getR (pc := 20) fX3_15 lo_13 rfl rfl dX3_copyFrom_20 ?_
  refine zr_iconst (pc := 23) dX3_copyFrom_23 ?_
  refine zr_iconst (pc := 24) dX3_copyFrom_24 ?_
  refine zr_copyi (pc := 25) rfl sX3_25 lo_6 lo_15 (by omega) (by omega) rfl dX3_copyFrom_25 ?_
  refine zr_aload_n (pc := 28) dX3_copyFrom_28 rfl rfl ?_
  refine zr_getR (pc := 29) fX3_18 lo_4 rfl rfl dX3_copyFrom_29 ?_
  refine zr_iconst (pc := 32) dX3_copyFrom_32 ?_
  refine zr_aload_n (pc := 33) dX3_copyFrom_33 rfl rfl ?_
  refine zr_getR (pc := 34) fX3_18 lo_13 rfl rfl dX3_copyFrom_34 ?_
  refine zr_iconst (pc := 37) dX3_copyFrom_37 ?_
  refine zr_bipush (pc := 38) dX3_copyFrom_38 (by decide) ?_
  refine zr_copyi (pc := 40) rfl sX3_25 lo_7 lo_16 (by omega) (by omega) rfl dX3_copyFrom_40 ?_
  refine zr_aload_n (pc := 43) dX3_copyFrom_43 rfl rfl ?_
  refine zr_aload_n (pc := 44) dX3_copyFrom_44 rfl rfl ?_
  refine zr_getI (pc := 45) (z := 3) fX3_21 lo_4 rfl rfl rfl dX3_copyFrom_45 ?_
  refine zr_putI (pc := 48) (z := 3) fX3_21 lo_13 rfl fwX3_3 rfl rfl dX3_copyFrom_48 ?_
  exact zr_return (pc := 51) dX3_copyFrom_51 rfl (h _ (fun k i hk => by
      rcases hk with hk | hk <;> simp [zm_put, zm_cpy, show k ≠ 13 by omega, show k ≠ 14 by omega, show k ≠ 15 by omega, show k ≠ 16 by omega]) (lvX_cpy (by simp [zm_put, zm_cpy]) (fun i h0 h1 => by simp [zm_put, zm_cpy, h0, h1]) (fun i h0 h1 => by simp [zm_put, zm_cpy, h0, h1]) (fun i h0 h1 => by simp [zm_put, zm_cpy, h0, h1]) hw))

