/-! THE REFERENCE'S CELLS: camps as fourteen numbers, the land -/
def cvG (M : zm_M) (a : Nat) (b : Int) : Cm := (msk (M 46 1) (fun t => M a (b + t)), msk (M 46 1) (M 50), msk (M 46 1) (fun t => M a (b + 4 + t)), msk (M 46 1) (fun t => M a (b + 8 + t)), M a (b + 12), M 46 1, M a (b + 13))
def lvM (M : zm_M) : Ln := (M 46 0, msk (M 46 0) (M 47), msk (M 46 0) (M 48), fun g k => if (0 ≤ g ∧ g < M 46 0) ∧ 0 ≤ k ∧ k < M 48 g then M 49 (4 * g + k) else 0)
def frW (l : Int) (M M2 : zm_M) : Prop := ∀ (k : Nat) (i : Int), (k ≠ 51 ∨ i < 14 * l ∨ 14 * l + 14 ≤ i) → M2 k i = M k i
theorem frW.rf {l : Int} {M : zm_M} : frW l M M := fun _ _ _ => rfl
theorem frW.tr {l : Int} {M M2 M3 : zm_M} (h : frW l M M2) (h2 : frW l M2 M3) : frW l M M3 := fun k i hk => (h2 k i hk).trans (h k i hk)
theorem frW.put {l : Int} {M M2 : zm_M} (h : frW l M M2) (i v : Int) (hi : 14 * l ≤ i ∧ i < 14 * l + 14) : frW l M (zm_put M2 51 i v) := by
  intro k2 i2 h2
  unfold zm_put
  rw [if_neg (fun x => by omega)]
  exact h k2 i2 h2
theorem CZ_vG (M : zm_M) (a : Nat) (b : Int) : CZ (cvG M a b) := fun t ht => ⟨if_neg ht, if_neg ht, if_neg ht, if_neg ht⟩
theorem cvG_of {M : zm_M} {a : Nat} {b : Int} {C : Cm} (hz : CZ C) (hT : M 46 1 = ct C) (hv : ∀ t, 0 ≤ t → t < ct C → M a (b + t) = cp C t ∧ M 50 t = ck C t ∧ M a (b + 4 + t) = cn C t ∧ M a (b + 8 + t) = ch C t) (hw : M a (b + 12) = cw C) (hg : M a (b + 13) = cg C) : cvG M a b = C := by
  have e : ∀ (f k : Int → Int), (∀ i, 0 ≤ i → i < ct C → f i = k i) → (∀ i, ¬ (0 ≤ i ∧ i < ct C) → k i = 0) → msk (M 46 1) f = k := by
    intro f k hf hk
    funext i
    unfold msk
    rw [hT]
    split
    · rename_i hx
      exact hf i hx.1 hx.2
    · rename_i hx
      exact (hk i hx).symm
  unfold cvG
  rw [e _ (cp C) (fun i a b => (hv i a b).1) (fun i hi => (hz i hi).1), e _ (ck C) (fun i a b => (hv i a b).2.1) (fun i hi => (hz i hi).2.1), e _ (cn C) (fun i a b => (hv i a b).2.2.1) (fun i hi => (hz i hi).2.2.1), e _ (ch C) (fun i a b => (hv i a b).2.2.2) (fun i hi => (hz i hi).2.2.2), hT, hw, hg]
theorem vG_p {M : zm_M} {a : Nat} {b t i : Int} (h : 0 ≤ t ∧ t < M 46 1) (hi : i = b + t) : cp (cvG M a b) t = M a i := by rw [hi]; exact if_pos h
theorem vG_k {M : zm_M} {a : Nat} {b t : Int} (h : 0 ≤ t ∧ t < M 46 1) : ck (cvG M a b) t = M 50 t := msk_in h.1 h.2
theorem vG_n {M : zm_M} {a : Nat} {b t i : Int} (h : 0 ≤ t ∧ t < M 46 1) (hi : i = b + 4 + t) : cn (cvG M a b) t = M a i := by rw [hi]; exact if_pos h
theorem vG_h {M : zm_M} {a : Nat} {b t i : Int} (h : 0 ≤ t ∧ t < M 46 1) (hi : i = b + 8 + t) : ch (cvG M a b) t = M a i := by rw [hi]; exact if_pos h
theorem wG {M : zm_M} {a : Nat} {b : Int} (h : CW (cvG M a b)) {t : Int} (ht : 0 ≤ t ∧ t < M 46 1) : (0 ≤ M a (b + t) ∧ M a (b + t) ≤ 9) ∧ (0 ≤ M 50 t ∧ M 50 t ≤ 3) ∧ (0 ≤ M a (b + 4 + t) ∧ M a (b + 4 + t) < 64) ∧ (0 ≤ M a (b + 8 + t) ∧ M a (b + 8 + t) ≤ 9) := by
  have h1 := h.2.2 t
  rw [vG_p ht rfl, vG_k ht, vG_n ht rfl, vG_h ht rfl] at h1
  exact h1
theorem wGt {M : zm_M} {a : Nat} {b : Int} (h : CW (cvG M a b)) : 0 ≤ M 46 1 ∧ M 46 1 ≤ 4 := h.1
theorem wGw {M : zm_M} {a : Nat} {b : Int} (h : CW (cvG M a b)) : 0 ≤ M a (b + 12) ∧ M a (b + 12) < 16 := ⟨h.2.1.1, h.w16⟩
theorem cvG_fr {M M2 : zm_M} {a : Nat} {b : Int} (hT : M2 46 1 = M 46 1) (hK : ∀ t, M2 50 t = M 50 t) (hv : ∀ i, b ≤ i → i < b + 14 → M2 a i = M a i) (h4 : M 46 1 ≤ 4) : cvG M2 a b = cvG M a b := by
  refine cvG_of (CZ_vG _ _ _) hT (fun t h0 h1 => ?_) (hv _ (by omega) (by omega)) (hv _ (by omega) (by omega))
  have h2 : t < M 46 1 := h1
  rw [vG_p ⟨h0, h1⟩ rfl, vG_k ⟨h0, h1⟩, vG_n ⟨h0, h1⟩ rfl, vG_h ⟨h0, h1⟩ rfl]
  exact ⟨hv _ (by omega) (by omega), hK t, hv _ (by omega) (by omega), hv _ (by omega) (by omega)⟩
theorem cvG_cp {M M2 : zm_M} {a a2 : Nat} {b b2 : Int} (hT : M2 46 1 = M 46 1) (hK : ∀ t, M2 50 t = M 50 t) (hv : ∀ k, 0 ≤ k → k < 14 → M2 a2 (b2 + k) = M a (b + k)) (h4 : M 46 1 ≤ 4) : cvG M2 a2 b2 = cvG M a b := by
  refine cvG_of (CZ_vG _ _ _) hT (fun t h0 h1 => ?_) (hv 12 (by omega) (by omega)) (hv 13 (by omega) (by omega))
  have h2 : t < M 46 1 := h1
  rw [vG_p ⟨h0, h1⟩ rfl, vG_k ⟨h0, h1⟩, vG_n ⟨h0, h1⟩ rfl, vG_h ⟨h0, h1⟩ rfl]
  refine ⟨hv t h0 (by omega), hK t, ?_, ?_⟩
  · rw [show b2 + 4 + t = b2 + (4 + t) by omega, show b + 4 + t = b + (4 + t) by omega]
    exact hv _ (by omega) (by omega)
  · rw [show b2 + 8 + t = b2 + (8 + t) by omega, show b + 8 + t = b + (8 + t) by omega]
    exact hv _ (by omega) (by omega)
theorem cvG_pl {M : zm_M} {b t v i : Int} (ht : 0 ≤ t ∧ t < M 46 1) (h4 : M 46 1 ≤ 4) (hi : i = b + t) : cvG (zm_put M 51 i v) 51 b = (upI (cp (cvG M 51 b)) t v, (cvG M 51 b).2) := by
  subst hi
  refine cvG_of (fun j hj => ⟨?_, (CZ_vG M 51 b j hj).2⟩) (put_nk _ _ _ _ (by decide)) (fun j h0 h1 => ?_) (put_ni _ _ (by omega)) (put_ni _ _ (by omega))
  · show upI _ _ _ _ = 0
    rw [upI_n (fun e => hj (by rw [e]; exact ht))]
    exact (CZ_vG M 51 b j hj).1
  · have h2 : j < M 46 1 := h1
    refine ⟨?_, ?_, ?_, ?_⟩
    · show _ = upI _ _ _ _
      by_cases e : j = t
      · rw [e, put_at, upI_s]
      · rw [put_ni _ _ (by omega), upI_n e, vG_p ⟨h0, h2⟩ rfl]
    · rw [put_nk _ _ _ _ (by decide)]
      exact (vG_k (a := 51) (b := b) ⟨h0, h2⟩).symm
    · rw [put_ni _ _ (by omega)]
      exact (vG_n ⟨h0, h2⟩ rfl).symm
    · rw [put_ni _ _ (by omega)]
      exact (vG_h ⟨h0, h2⟩ rfl).symm
theorem cvG_kn {M : zm_M} {b t v i : Int} (ht : 0 ≤ t ∧ t < M 46 1) (h4 : M 46 1 ≤ 4) (hi : i = b + 4 + t) : cvG (zm_put M 51 i v) 51 b = (cp (cvG M 51 b), ck (cvG M 51 b), upI (cn (cvG M 51 b)) t v, (cvG M 51 b).2.2.2) := by
  subst hi
  refine cvG_of (fun j hj => ⟨(CZ_vG M 51 b j hj).1, (CZ_vG M 51 b j hj).2.1, ?_, (CZ_vG M 51 b j hj).2.2.2⟩) (put_nk _ _ _ _ (by decide)) (fun j h0 h1 => ?_) (put_ni _ _ (by omega)) (put_ni _ _ (by omega))
  · show upI _ _ _ _ = 0
    rw [upI_n (fun e => hj (by rw [e]; exact ht))]
    exact (CZ_vG M 51 b j hj).2.2.1
  · have h2 : j < M 46 1 := h1
    refine ⟨?_, ?_, ?_, ?_⟩
    · rw [put_ni _ _ (by omega)]
      exact (vG_p ⟨h0, h2⟩ rfl).symm
    · rw [put_nk _ _ _ _ (by decide)]
      exact (vG_k (a := 51) (b := b) ⟨h0, h2⟩).symm
    · show _ = upI _ _ _ _
      by_cases e : j = t
      · rw [e, put_at, upI_s]
      · rw [put_ni _ _ (by omega), upI_n e, vG_n ⟨h0, h2⟩ rfl]
    · rw [put_ni _ _ (by omega)]
      exact (vG_h ⟨h0, h2⟩ rfl).symm
theorem cvG_wh {M : zm_M} {b t v i : Int} (ht : 0 ≤ t ∧ t < M 46 1) (h4 : M 46 1 ≤ 4) (hi : i = b + 8 + t) : cvG (zm_put M 51 i v) 51 b = (cp (cvG M 51 b), ck (cvG M 51 b), cn (cvG M 51 b), upI (ch (cvG M 51 b)) t v, (cvG M 51 b).2.2.2.2) := by
  subst hi
  refine cvG_of (fun j hj => ⟨(CZ_vG M 51 b j hj).1, (CZ_vG M 51 b j hj).2.1, (CZ_vG M 51 b j hj).2.2.1, ?_⟩) (put_nk _ _ _ _ (by decide)) (fun j h0 h1 => ?_) (put_ni _ _ (by omega)) (put_ni _ _ (by omega))
  · show upI _ _ _ _ = 0
    rw [upI_n (fun e => hj (by rw [e]; exact ht))]
    exact (CZ_vG M 51 b j hj).2.2.2
  · have h2 : j < M 46 1 := h1
    refine ⟨?_, ?_, ?_, ?_⟩
    · rw [put_ni _ _ (by omega)]
      exact (vG_p ⟨h0, h2⟩ rfl).symm
    · rw [put_nk _ _ _ _ (by decide)]
      exact (vG_k (a := 51) (b := b) ⟨h0, h2⟩).symm
    · rw [put_ni _ _ (by omega)]
      exact (vG_n ⟨h0, h2⟩ rfl).symm
    · show _ = upI _ _ _ _
      by_cases e : j = t
      · rw [e, put_at, upI_s]
      · rw [put_ni _ _ (by omega), upI_n e, vG_h ⟨h0, h2⟩ rfl]
theorem cvG_wa {M : zm_M} {b v i : Int} (h4 : M 46 1 ≤ 4) (hi : i = b + 12) : cvG (zm_put M 51 i v) 51 b = (cp (cvG M 51 b), ck (cvG M 51 b), cn (cvG M 51 b), ch (cvG M 51 b), v, (cvG M 51 b).2.2.2.2.2) := by
  subst hi
  refine cvG_of (fun j hj => CZ_vG M 51 b j hj) (put_nk _ _ _ _ (by decide)) (fun j h0 h1 => ?_) (put_at _ _ _ _) (put_ni _ _ (by omega))
  have h2 : j < M 46 1 := h1
  refine ⟨?_, ?_, ?_, ?_⟩
  · rw [put_ni _ _ (by omega)]
    exact (vG_p ⟨h0, h2⟩ rfl).symm
  · rw [put_nk _ _ _ _ (by decide)]
    exact (vG_k (a := 51) (b := b) ⟨h0, h2⟩).symm
  · rw [put_ni _ _ (by omega)]
    exact (vG_n ⟨h0, h2⟩ rfl).symm
  · rw [put_ni _ _ (by omega)]
    exact (vG_h ⟨h0, h2⟩ rfl).symm
theorem cvG_ni {M : zm_M} {b v i : Int} (h4 : M 46 1 ≤ 4) (hi : i = b + 13) : cvG (zm_put M 51 i v) 51 b = (cp (cvG M 51 b), ck (cvG M 51 b), cn (cvG M 51 b), ch (cvG M 51 b), cw (cvG M 51 b), ct (cvG M 51 b), v) := by
  subst hi
  refine cvG_of (fun j hj => CZ_vG M 51 b j hj) (put_nk _ _ _ _ (by decide)) (fun j h0 h1 => ?_) (put_ni _ _ (by omega)) (put_at _ _ _ _)
  have h2 : j < M 46 1 := h1
  refine ⟨?_, ?_, ?_, ?_⟩
  · rw [put_ni _ _ (by omega)]
    exact (vG_p ⟨h0, h2⟩ rfl).symm
  · rw [put_nk _ _ _ _ (by decide)]
    exact (vG_k (a := 51) (b := b) ⟨h0, h2⟩).symm
  · rw [put_ni _ _ (by omega)]
    exact (vG_n ⟨h0, h2⟩ rfl).symm
  · rw [put_ni _ _ (by omega)]
    exact (vG_h ⟨h0, h2⟩ rfl).symm
theorem lvM_fr {M M2 : zm_M} (h0 : M2 46 0 = M 46 0) (h : ∀ (k : Nat) (i : Int), 47 ≤ k → k ≤ 49 → M2 k i = M k i) : lvM M2 = lvM M := by
  unfold lvM
  have e1 : M2 47 = M 47 := funext fun i => h 47 i (by omega) (by omega)
  have e2 : M2 48 = M 48 := funext fun i => h 48 i (by omega) (by omega)
  have e3 : M2 49 = M 49 := funext fun i => h 49 i (by omega) (by omega)
  rw [h0, e1, e2, e3]
theorem lM_p {M : zm_M} {g : Int} (h : 0 ≤ g ∧ g < M 46 0) : (lvM M).2.1 g = M 47 g := msk_in h.1 h.2
theorem lM_d {M : zm_M} {g : Int} (h : 0 ≤ g ∧ g < M 46 0) : (lvM M).2.2.1 g = M 48 g := msk_in h.1 h.2
theorem lM_y {M : zm_M} {g k : Int} (h : 0 ≤ g ∧ g < M 46 0) (hk : 0 ≤ k ∧ k < M 48 g) : (lvM M).2.2.2 g k = M 49 (4 * g + k) := if_pos ⟨h, hk⟩
theorem yM {M : zm_M} (h : LW (lvM M)) {g : Int} (hg : 0 ≤ g ∧ g < M 46 0) : (0 ≤ M 47 g ∧ M 47 g ≤ 9) ∧ (0 ≤ M 48 g ∧ M 48 g ≤ 4) := by
  have h1 := h.2.1 g
  rw [lM_p hg, lM_d hg] at h1
  exact h1
theorem yMl {M : zm_M} (h : LW (lvM M)) {g k : Int} (hg : 0 ≤ g ∧ g < M 46 0) (hk : 0 ≤ k ∧ k < M 48 g) : 0 ≤ M 49 (4 * g + k) ∧ M 49 (4 * g + k) ≤ 5 := by
  have h1 := h.2.2 g k
  rw [lM_y hg hk] at h1
  exact h1
theorem yMk {M : zm_M} (h : LW (lvM M)) : 0 ≤ M 46 0 ∧ M 46 0 ≤ 4 := h.1
/-! bits -/
theorem sm_ok : ∀ k : Nat, k < 31 → ((Int32.ofInt (k : Int) &&& 31).toBitVec.smod 32).toNat = k := by decide +kernel
theorem hs1 {s k : Int} (hs : 0 ≤ s ∧ s < 2147483648) (hk : 0 ≤ k ∧ k < 31) : zb_and (zb_shr s k) 1 = if bt s k = true then 1 else 0 := by
  obtain ⟨s, rfl⟩ := Int.eq_ofNat_of_zero_le hs.1
  obtain ⟨k, rfl⟩ := Int.eq_ofNat_of_zero_le hk.1
  rw [and1, shr_k _ k _ (sm_ok k (by omega)), zw_id (by omega) (by omega)]
  unfold bt
  have e : ((s : Int) / 2 ^ k) % 2 = (((s / 2 ^ k) % 2 : Nat) : Int) := by simp
  rw [e]
  simp only [Int.toNat_natCast, decide_eq_true_eq]
  split <;> omega
theorem or0_ok : ∀ s : Nat, s < 64 → zb_or (s : Int) 0 = (s : Int) := by decide +kernel
theorem or0 {s : Int} (h : 0 ≤ s ∧ s < 64) : zb_or s 0 = s := by
  obtain ⟨s, rfl⟩ := Int.eq_ofNat_of_zero_le h.1
  exact or0_ok s (by omega)
theorem orb_ok : ∀ s : Nat, s < 64 → ∀ l : Nat, l < 6 → bt (s : Int) (l : Int) = true → zb_or (s : Int) (zb_shl 1 (l : Int)) = (s : Int) := by decide +kernel
theorem orb {s l : Int} (h : 0 ≤ s ∧ s < 64) (hl : 0 ≤ l ∧ l < 6) (hb : bt s l = true) : zb_or s (zb_shl 1 l) = s := by
  obtain ⟨s, rfl⟩ := Int.eq_ofNat_of_zero_le h.1
  obtain ⟨l, rfl⟩ := Int.eq_ofNat_of_zero_le hl.1
  exact orb_ok s (by omega) l (by omega) hb
theorem tkL_big {ly : Int → Int} : ∀ (n : Nat) (k a b s : Int), (n : Int) ≤ a → (n : Int) ≤ b → tkL ly n k a s = tkL ly n k b s
  | 0, k, a, b, s, _, _ => rfl
  | n + 1, k, a, b, s, ha, hb => by
    unfold tkL
    rw [if_pos (show (0 : Int) < a by omega), if_pos (show (0 : Int) < b by omega), tkL_big n (k + 1) a b s (by omega) (by omega), tkL_big n (k + 1) (a - 1) (b - 1) _ (by omega) (by omega)]
theorem lcx {a b : Int} (ha : -9223372036854775808 ≤ a ∧ a < 9223372036854775808) (hb : -9223372036854775808 ≤ b ∧ b < 9223372036854775808) : (zl_cmp a b < 0 ↔ a < b) ∧ (0 < zl_cmp a b ↔ b < a) ∧ zi (zl_cmp a b) := by
  unfold zl_cmp
  rw [zx_id ha.1 ha.2, zx_id hb.1 hb.2]
  split
  · refine ⟨by omega, by omega, by omega⟩
  · split
    · refine ⟨by omega, by omega, by omega⟩
    · refine ⟨by omega, by omega, by omega⟩
set_option maxRecDepth 100000 in
set_option maxHeartbeats 4000000 in
theorem ct_X11_in {g : zt_G} {M : zm_M} {q : Int → zm_M → Prop} {v a b : Int} (hv : -9223372036854775808 ≤ v ∧ v < 9223372036854775808) (ha : -9223372036854775808 ≤ a ∧ a < 9223372036854775808) (hb : -9223372036854775808 ≤ b ∧ b < 9223372036854775808) (h : q (zb_B (a ≤ v ∧ v ≤ b)) M) : zc_K g yX11_in mX11_in [zv_l v, zv_l a, zv_l b] M (zq_I q) := by
  refine zc_of (ls := [some (zv_l v), none, some (zv_l a), none, some (zv_l b), none]) (by decide) rfl ⟨rfl, rfl⟩ (Nat.le_of_ble_eq_true rfl) rfl ?_
  have h1 := lcx hv ha
  have h2 := lcx hv hb
  refine zr_lload_n (pc := 0) dX11_in_0 rfl rfl ?_
  refine zr_lload_n (pc := 1) dX11_in_1 rfl rfl ?_
  refine zr_lcmp (pc := 2) dX11_in_2 ?_
  refine zi_if_lt (pc := 3) (tgt := 17) dX11_in_3 (by decide) h1.2.2 (fun h3 => ?_) (fun h3 => ?_)
  · refine zr_iconst (pc := 17) dX11_in_17 ?_
    exact zr_zreturn (pc := 18) dX11_in_18 rfl (by decide) (zq_eq h (zb_F (by rw [h1.1] at h3; omega)))
  · refine zr_lload_n (pc := 6) dX11_in_6 rfl rfl ?_
    refine zr_lload (pc := 7) dX11_in_7 rfl ?_
    refine zr_lcmp (pc := 9) dX11_in_9 ?_
    refine zi_if_gt (pc := 10) (tgt := 17) dX11_in_10 (by decide) h2.2.2 (fun h10 => ?_) (fun h10 => ?_)
    · refine zr_iconst (pc := 17) dX11_in_17 ?_
      exact zr_zreturn (pc := 18) dX11_in_18 rfl (by decide) (zq_eq h (zb_F (by rw [h2.2.1] at h10; omega)))
    · refine zr_iconst (pc := 13) dX11_in_13 ?_
      refine zr_goto (pc := 14) (tgt := 18) dX11_in_14 (by decide) ?_
      exact zr_zreturn (pc := 18) dX11_in_18 rfl (by decide) (zq_eq h (zb_T ⟨Int.not_lt.mp (fun y => by have := h1.1.mpr y; omega), Int.not_lt.mp (fun y => by have := h2.2.1.mpr y; omega)⟩))

theorem in_i {g : zt_G} {M : zm_M} {q : Int → zm_M → Prop} {v a b : Int} (hv : zi v) (ha : -9223372036854775808 ≤ a ∧ a < 9223372036854775808) (hb : -9223372036854775808 ≤ b ∧ b < 9223372036854775808) (h : q (zb_B (a ≤ v ∧ v ≤ b)) M) : zc_K g yX11_in mX11_in [zv_l (zw v), zv_l a, zv_l b] M (zq_I q) := by
  rw [zw_id hv.1 hv.2]
  exact ct_X11_in (by omega) ha hb h
set_option maxRecDepth 100000 in
set_option maxHeartbeats 4000000 in
theorem ct_X11_has {g : zt_G} {M : zm_M} {q : Int → zm_M → Prop} {s k : Int} (hs : 0 ≤ s ∧ s < 2147483648) (hk : 0 ≤ k ∧ k < 31) (h : q (zb_B (bt s k = true)) M) : zc_K g yX11_has mX11_has [zv_i s, zv_i k] M (zq_I q) := by
  refine zc_of (ls := [some (zv_i s), some (zv_i k)]) (by decide) rfl ⟨rfl, rfl⟩ (Nat.le_of_ble_eq_true rfl) rfl ?_
  have h1 := hs1 hs hk
  refine zr_iload_n (pc := 0) dX11_has_0 rfl rfl ?_
  refine zr_iload_n (pc := 1) dX11_has_1 rfl rfl ?_
  refine zr_ishr (pc := 2) dX11_has_2 ?_
  refine zr_iconst (pc := 3) dX11_has_3 ?_
  refine zr_iand (pc := 4) dX11_has_4 ?_
  rw [h1]
  refine zr_iconst (pc := 5) dX11_has_5 ?_
  refine zi_icmp_ne (pc := 6) (tgt := 13) dX11_has_6 (by decide) (by split <;> omega) (by omega) (fun h6 => ?_) (fun h6 => ?_)
  · refine zr_iconst (pc := 13) dX11_has_13 ?_
    exact zr_zreturn (pc := 14) dX11_has_14 rfl (by decide) (zq_eq h (zb_F (fun y => h6 (if_pos y))))
  · refine zr_iconst (pc := 9) dX11_has_9 ?_
    refine zr_goto (pc := 10) (tgt := 14) dX11_has_10 (by decide) ?_
    exact zr_zreturn (pc := 14) dX11_has_14 rfl (by decide) (zq_eq h (zb_T (by
        by_cases y : bt s k = true
        · exact y
        · rw [if_neg y] at h6
          omega)))

set_option maxRecDepth 100000 in
set_option maxHeartbeats 4000000 in
theorem lp_X11_ones {g : zt_G} {M : zm_M} {q : Int → zm_M → Prop} {s : Int} (hs : 0 ≤ s ∧ s < 2147483648) (h : q (on6 s) M) : ∀ (nn : Nat) (n k : Int), (6 - k).toNat = nn → 0 ≤ k → k ≤ 6 → n = fo (fun k n => n + (if bt s k = true then 1 else 0)) 0 k.toNat → zc_Z g mX11_ones 4 [some (zv_i s), some (zv_i n), some (zv_i k)] [] M (zq_I q) := by
  intro nn
  induction nn using Nat.strongRecOn with
  | ind nn ih =>
    intro n k hn h0 h1 hb
    refine zr_iload_n (pc := 4) dX11_ones_4 rfl rfl ?_
    refine zr_bipush (pc := 5) dX11_ones_5 (by decide) ?_
    refine zi_icmp_ge (pc := 7) (tgt := 24) dX11_ones_7 (by decide) (by omega) (by omega) (fun h7 => ?_) (fun h7 => ?_)
    · refine zr_iload_n (pc := 24) dX11_ones_24 rfl rfl ?_
      exact zr_ireturn (pc := 25) dX11_ones_25 rfl (zq_eq h (by unfold on6; rw [hb, show k = 6 by omega]; rfl))
    · refine zr_iload_n (pc := 10) dX11_ones_10 rfl rfl ?_
      refine zr_iload_n (pc := 11) dX11_ones_11 rfl rfl ?_
      refine zr_iload_n (pc := 12) dX11_ones_12 rfl rfl ?_
      refine zr_ishr (pc := 13) dX11_ones_13 ?_
      refine zr_iconst (pc := 14) dX11_ones_14 ?_
      refine zr_iand (pc := 15) dX11_ones_15 ?_
      rw [hs1 hs ⟨h0, by omega⟩]
      refine zr_iadd (pc := 16) dX11_ones_16 ?_
      refine zr_istore_n (pc := 17) dX11_ones_17 rfl (Nat.le_of_ble_eq_true rfl) rfl ?_
      refine zr_iinc (pc := 18) dX11_ones_18 rfl (Nat.le_of_ble_eq_true rfl) rfl ?_
      refine zr_goto (pc := 21) (tgt := 4) dX11_ones_21 (by decide) ?_
      exact ih _ (by omega) _ _ rfl (by omega) (by omega) (by rw [fo_s h0, ← hb])

set_option maxRecDepth 100000 in
set_option maxHeartbeats 4000000 in
theorem ct_X11_ones {g : zt_G} {M : zm_M} {q : Int → zm_M → Prop} {s : Int} (hs : 0 ≤ s ∧ s < 2147483648) (h : q (on6 s) M) : zc_K g yX11_ones mX11_ones [zv_i s] M (zq_I q) := by
  refine zc_of (ls := [some (zv_i s), none, none]) (by decide) rfl ⟨rfl, rfl⟩ (Nat.le_of_ble_eq_true rfl) rfl ?_
  refine zr_iconst (pc := 0) dX11_ones_0 ?_
  refine zr_istore_n (pc := 1) dX11_ones_1 rfl (Nat.le_of_ble_eq_true rfl) rfl ?_
  refine zr_iconst (pc := 2) dX11_ones_2 ?_
  refine zr_istore_n (pc := 3) dX11_ones_3 rfl (Nat.le_of_ble_eq_true rfl) rfl ?_
  exact lp_X11_ones hs h _ _ _ rfl (by omega) (by omega) rfl

set_option maxRecDepth 100000 in
set_option maxHeartbeats 4000000 in
theorem ct_X11_isKiln {g : zt_G} {M : zm_M} {q : Int → zm_M → Prop} (hb : 0 ≤ M 46 0 ∧ M 46 0 ≤ 4) {t : Int} (ht : zi t) (h : q (zb_B (0 ≤ t ∧ t < M 46 0)) M) : zc_K g yX11_isKiln mX11_isKiln [zv_r 46, zv_i t] M (zq_I q) := by
  refine zc_of (ls := [some (zv_r 46), some (zv_i t)]) (by decide) rfl ⟨rfl, rfl⟩ (Nat.le_of_ble_eq_true rfl) rfl ?_
  refine zr_iload_n (pc := 0) dX11_isKiln_0 rfl rfl ?_
  refine zr_i2l (pc := 1) dX11_isKiln_1 ?_
  refine zr_lconst (pc := 2) (z := 0) dX11_isKiln_2 (by decide +kernel) ?_
  refine zr_aload_n (pc := 3) dX11_isKiln_3 rfl rfl ?_
  refine zr_getI (pc := 4) (z := 0) fX11_107 lo_46 rfl rfl rfl dX11_isKiln_4 ?_
  refine zr_iconst (pc := 7) dX11_isKiln_7 ?_
  refine zr_isub (pc := 8) dX11_isKiln_8 ?_
  refine zr_i2l (pc := 9) dX11_isKiln_9 ?_
  refine zr_stat3I (pc := 10) rfl sX11_61 rfl rfl dX11_isKiln_10 ?_
  rw [zw_id (z := M 46 0 - 1) (by omega) (by omega)]
  refine in_i ht (by omega) (by omega) ?_
  exact zr_zreturn (pc := 13) dX11_isKiln_13 rfl zb_01 (zq_eq h (zb_iff (by omega)))

set_option maxRecDepth 100000 in
set_option maxHeartbeats 4000000 in
theorem ct_X11_isTramp {g : zt_G} {M : zm_M} {q : Int → zm_M → Prop} (hb : 0 ≤ M 46 1 ∧ M 46 1 ≤ 4) {t : Int} (ht : zi t) (h : q (zb_B (0 ≤ t ∧ t < M 46 1)) M) : zc_K g yX11_isTramp mX11_isTramp [zv_r 46, zv_i t] M (zq_I q) := by
  refine zc_of (ls := [some (zv_r 46), some (zv_i t)]) (by decide) rfl ⟨rfl, rfl⟩ (Nat.le_of_ble_eq_true rfl) rfl ?_
  refine zr_iload_n (pc := 0) dX11_isTramp_0 rfl rfl ?_
  refine zr_i2l (pc := 1) dX11_isTramp_1 ?_
  refine zr_lconst (pc := 2) (z := 0) dX11_isTramp_2 (by decide +kernel) ?_
  refine zr_aload_n (pc := 3) dX11_isTramp_3 rfl rfl ?_
  refine zr_getI (pc := 4) (z := 1) fX11_110 lo_46 rfl rfl rfl dX11_isTramp_4 ?_
  refine zr_iconst (pc := 7) dX11_isTramp_7 ?_
  refine zr_isub (pc := 8) dX11_isTramp_8 ?_
  refine zr_i2l (pc := 9) dX11_isTramp_9 ?_
  refine zr_stat3I (pc := 10) rfl sX11_61 rfl rfl dX11_isTramp_10 ?_
  rw [zw_id (z := M 46 1 - 1) (by omega) (by omega)]
  refine in_i ht (by omega) (by omega) ?_
  exact zr_zreturn (pc := 13) dX11_isTramp_13 rfl zb_01 (zq_eq h (zb_iff (by omega)))

set_option maxRecDepth 100000 in
set_option maxHeartbeats 4000000 in
theorem ct_X11_isPlace {g : zt_G} {M : zm_M} {q : Int → zm_M → Prop} {t : Int} (ht : zi t) (h : q (zb_B (0 ≤ t ∧ t < 10)) M) : zc_K g yX11_isPlace mX11_isPlace [zv_i t] M (zq_I q) := by
  refine zc_of (ls := [some (zv_i t)]) (by decide) rfl ⟨rfl, rfl⟩ (Nat.le_of_ble_eq_true rfl) rfl ?_
  refine zr_iload_n (pc := 0) dX11_isPlace_0 rfl rfl ?_
  refine zr_i2l (pc := 1) dX11_isPlace_1 ?_
  refine zr_lconst (pc := 2) (z := 0) dX11_isPlace_2 (by decide +kernel) ?_
  refine zr_ldc2 (pc := 3) (z := 9) rfl kX11_116 (by decide +kernel) dX11_isPlace_3 ?_
  refine zr_stat3I (pc := 6) rfl sX11_61 rfl rfl dX11_isPlace_6 ?_
  refine in_i ht (by omega) (by omega) ?_
  exact zr_zreturn (pc := 9) dX11_isPlace_9 rfl zb_01 (zq_eq h (zb_iff (by omega)))

set_option maxRecDepth 100000 in
set_option maxHeartbeats 4000000 in
theorem lp_X11_kilnOf {g : zt_G} {M : zm_M} {q : Int → zm_M → Prop} (hw : LW (lvM M)) {p : Int} (hp : zi p) : ∀ (nn : Nat) (t : Int), (M 46 0 - t).toNat = nn → 0 ≤ t → t ≤ M 46 0 → q (kat (lvM M).2.1 p (M 46 0 - t).toNat t) M → zc_Z g mX11_kilnOf 2 [some (zv_r 46), some (zv_i p), some (zv_i t)] [] M (zq_I q) := by
  intro nn
  induction nn using Nat.strongRecOn with
  | ind nn ih =>
    intro t hn h0 hle h
    have hw1 := yMk hw
    refine zr_iload_n (pc := 2) dX11_kilnOf_2 rfl rfl ?_
    refine zr_aload_n (pc := 3) dX11_kilnOf_3 rfl rfl ?_
    refine zr_getI (pc := 4) (z := 0) fX11_107 lo_46 rfl rfl rfl dX11_kilnOf_4 ?_
    refine zi_icmp_ge (pc := 7) (tgt := 28) dX11_kilnOf_7 (by decide) (by omega) (by omega) (fun h7 => ?_) (fun h7 => ?_)
    · refine zr_bipush (pc := 28) dX11_kilnOf_28 (by decide) ?_
      exact zr_ireturn (pc := 30) dX11_kilnOf_30 rfl (zq_eq h (by rw [show (M 46 0 - t).toNat = 0 by omega]; rfl))
    · have hw2 := yM hw ⟨h0, h7⟩
      have e1 : (M 46 0 - t).toNat = (M 46 0 - (t + 1)).toNat + 1 := by omega
      rw [e1] at h
      unfold kat at h
      rw [lM_p ⟨h0, h7⟩] at h
      refine zr_aload_n (pc := 10) dX11_kilnOf_10 rfl rfl ?_
      refine zr_getR (pc := 11) fX11_7 lo_46 rfl rfl dX11_kilnOf_11 ?_
      refine zr_iload_n (pc := 14) dX11_kilnOf_14 rfl rfl ?_
      refine zr_iaload (pc := 15) lo_47 (by omega) dX11_kilnOf_15 ?_
      refine zr_iload_n (pc := 16) dX11_kilnOf_16 rfl rfl ?_
      refine zi_icmp_ne (pc := 17) (tgt := 22) dX11_kilnOf_17 (by decide) (by omega) (by omega) (fun h17 => ?_) (fun h17 => ?_)
      · rw [if_neg h17] at h
        refine zr_iinc (pc := 22) dX11_kilnOf_22 rfl (Nat.le_of_ble_eq_true rfl) rfl ?_
        refine zr_goto (pc := 25) (tgt := 2) dX11_kilnOf_25 (by decide) ?_
        exact ih _ (by omega) _ rfl (by omega) (by omega) h
      · rw [if_pos h17] at h
        refine zr_iload_n (pc := 20) dX11_kilnOf_20 rfl rfl ?_
        exact zr_ireturn (pc := 21) dX11_kilnOf_21 rfl (zq_eq h rfl)

set_option maxRecDepth 100000 in
set_option maxHeartbeats 4000000 in
theorem ct_X11_kilnOf {g : zt_G} {M : zm_M} {q : Int → zm_M → Prop} (hw : LW (lvM M)) {p : Int} (hp : zi p) (h : q (kiA (lvM M) p) M) : zc_K g yX11_kilnOf mX11_kilnOf [zv_r 46, zv_i p] M (zq_I q) := by
  refine zc_of (ls := [some (zv_r 46), some (zv_i p), none]) (by decide) rfl ⟨rfl, rfl⟩ (Nat.le_of_ble_eq_true rfl) rfl ?_
  refine zr_iconst (pc := 0) dX11_kilnOf_0 ?_
  refine zr_istore_n (pc := 1) dX11_kilnOf_1 rfl (Nat.le_of_ble_eq_true rfl) rfl ?_
  exact lp_X11_kilnOf hw hp _ _ rfl (Int.le_refl 0) (yMk hw).1 (by rw [Int.sub_zero]; exact h)

set_option maxRecDepth 100000 in
set_option maxHeartbeats 4000000 in
theorem lp_X11_setOf {g : zt_G} {M : zm_M} {q : Int → zm_M → Prop} (hw : LW (lvM M)) {t : Int} (ht : 0 ≤ t ∧ t < M 46 0) (h : q (bitG (lvM M) t) M) : ∀ (nn : Nat) (b k : Int), (M 48 t - k).toNat = nn → 0 ≤ k → k ≤ M 48 t → b = fo (fun k b => zb_or b (zb_shl 1 ((lvM M).2.2.2 t k))) 0 k.toNat → zc_Z g mX11_setOf 4 [some (zv_r 46), some (zv_i t), some (zv_i b), some (zv_i k)] [] M (zq_I q) := by
  intro nn
  induction nn using Nat.strongRecOn with
  | ind nn ih =>
    intro b k hn h0 h1 hb
    have hw1 := yMk hw
    have hw2 := yM hw ht
    refine zr_iload_n (pc := 4) dX11_setOf_4 rfl rfl ?_
    refine zr_aload_n (pc := 5) dX11_setOf_5 rfl rfl ?_
    refine zr_getR (pc := 6) fX11_13 lo_46 rfl rfl dX11_setOf_6 ?_
    refine zr_iload_n (pc := 9) dX11_setOf_9 rfl rfl ?_
    refine zr_iaload (pc := 10) lo_48 (by omega) dX11_setOf_10 ?_
    refine zi_icmp_ge (pc := 11) (tgt := 35) dX11_setOf_11 (by decide) (by omega) (by omega) (fun h11 => ?_) (fun h11 => ?_)
    · refine zr_iload_n (pc := 35) dX11_setOf_35 rfl rfl ?_
      exact zr_ireturn (pc := 36) dX11_setOf_36 rfl (zq_eq h (by unfold bitG; rw [hb, lM_d ht, show k = M 48 t by omega]))
    · refine zr_iload_n (pc := 14) dX11_setOf_14 rfl rfl ?_
      refine zr_iconst (pc := 15) dX11_setOf_15 ?_
      refine zr_aload_n (pc := 16) dX11_setOf_16 rfl rfl ?_
      refine zr_getR (pc := 17) fX11_16 lo_46 rfl rfl dX11_setOf_17 ?_
      refine zr_iconst (pc := 20) dX11_setOf_20 ?_
      refine zr_iload_n (pc := 21) dX11_setOf_21 rfl rfl ?_
      refine zr_imul (pc := 22) dX11_setOf_22 ?_
      refine zr_iload_n (pc := 23) dX11_setOf_23 rfl rfl ?_
      refine zr_iadd (pc := 24) dX11_setOf_24 ?_
      refine zr_iaload (pc := 25) lo_49 (by omega) dX11_setOf_25 ?_
      refine zr_ishl (pc := 26) dX11_setOf_26 ?_
      refine zr_ior (pc := 27) dX11_setOf_27 ?_
      refine zr_istore_n (pc := 28) dX11_setOf_28 rfl (Nat.le_of_ble_eq_true rfl) rfl ?_
      refine zr_iinc (pc := 29) dX11_setOf_29 rfl (Nat.le_of_ble_eq_true rfl) rfl ?_
      refine zr_goto (pc := 32) (tgt := 4) dX11_setOf_32 (by decide) ?_
      exact ih _ (by omega) _ _ rfl (by omega) (by omega) (by rw [fo_s h0, ← hb, lM_y ht ⟨h0, by omega⟩])

set_option maxRecDepth 100000 in
set_option maxHeartbeats 4000000 in
theorem ct_X11_setOf {g : zt_G} {M : zm_M} {q : Int → zm_M → Prop} (hw : LW (lvM M)) {t : Int} (ht : 0 ≤ t ∧ t < M 46 0) (h : q (bitG (lvM M) t) M) : zc_K g yX11_setOf mX11_setOf [zv_r 46, zv_i t] M (zq_I q) := by
  refine zc_of (ls := [some (zv_r 46), some (zv_i t), none, none]) (by decide) rfl ⟨rfl, rfl⟩ (Nat.le_of_ble_eq_true rfl) rfl ?_
  have hw2 := yM hw ht
  refine zr_iconst (pc := 0) dX11_setOf_0 ?_
  refine zr_istore_n (pc := 1) dX11_setOf_1 rfl (Nat.le_of_ble_eq_true rfl) rfl ?_
  refine zr_iconst (pc := 2) dX11_setOf_2 ?_
  refine zr_istore_n (pc := 3) dX11_setOf_3 rfl (Nat.le_of_ble_eq_true rfl) rfl ?_
  exact lp_X11_setOf hw ht h _ _ _ rfl (by omega) (by omega) rfl

set_option maxRecDepth 100000 in
set_option maxHeartbeats 4000000 in
theorem lp_X11_figuresOf {g : zt_G} {M : zm_M} {q : Int → zm_M → Prop} (hw : LW (lvM M)) {t : Int} (ht : 0 ≤ t ∧ t < M 46 0) (h : q (figG (lvM M) t) M) : ∀ (nn : Nat) (b k : Int), (M 48 t - k).toNat = nn → 0 ≤ k → k ≤ M 48 t → b = fo (fun k v => 10 * v + (lvM M).2.2.2 t k + 1) 0 k.toNat → zc_Z g mX11_figuresOf 4 [some (zv_r 46), some (zv_i t), some (zv_i b), some (zv_i k)] [] M (zq_I q) := by
  intro nn
  induction nn using Nat.strongRecOn with
  | ind nn ih =>
    intro b k hn h0 h1 hb
    have hw1 := yMk hw
    have hw2 := yM hw ht
    refine zr_iload_n (pc := 4) dX11_figuresOf_4 rfl rfl ?_
    refine zr_aload_n (pc := 5) dX11_figuresOf_5 rfl rfl ?_
    refine zr_getR (pc := 6) fX11_13 lo_46 rfl rfl dX11_figuresOf_6 ?_
    refine zr_iload_n (pc := 9) dX11_figuresOf_9 rfl rfl ?_
    refine zr_iaload (pc := 10) lo_48 (by omega) dX11_figuresOf_10 ?_
    refine zi_icmp_ge (pc := 11) (tgt := 38) dX11_figuresOf_11 (by decide) (by omega) (by omega) (fun h11 => ?_) (fun h11 => ?_)
    · refine zr_iload_n (pc := 38) dX11_figuresOf_38 rfl rfl ?_
      exact zr_ireturn (pc := 39) dX11_figuresOf_39 rfl (zq_eq h (by unfold figG; rw [hb, lM_d ht, show k = M 48 t by omega]))
    · refine zr_bipush (pc := 14) dX11_figuresOf_14 (by decide) ?_
      refine zr_iload_n (pc := 16) dX11_figuresOf_16 rfl rfl ?_
      refine zr_imul (pc := 17) dX11_figuresOf_17 ?_
      refine zr_aload_n (pc := 18) dX11_figuresOf_18 rfl rfl ?_
      refine zr_getR (pc := 19) fX11_16 lo_46 rfl rfl dX11_figuresOf_19 ?_
      refine zr_iconst (pc := 22) dX11_figuresOf_22 ?_
      refine zr_iload_n (pc := 23) dX11_figuresOf_23 rfl rfl ?_
      refine zr_imul (pc := 24) dX11_figuresOf_24 ?_
      refine zr_iload_n (pc := 25) dX11_figuresOf_25 rfl rfl ?_
      refine zr_iadd (pc := 26) dX11_figuresOf_26 ?_
      refine zr_iaload (pc := 27) lo_49 (by omega) dX11_figuresOf_27 ?_
      refine zr_iadd (pc := 28) dX11_figuresOf_28 ?_
      refine zr_iconst (pc := 29) dX11_figuresOf_29 ?_
      refine zr_iadd (pc := 30) dX11_figuresOf_30 ?_
      refine zr_istore_n (pc := 31) dX11_figuresOf_31 rfl (Nat.le_of_ble_eq_true rfl) rfl ?_
      refine zr_iinc (pc := 32) dX11_figuresOf_32 rfl (Nat.le_of_ble_eq_true rfl) rfl ?_
      refine zr_goto (pc := 35) (tgt := 4) dX11_figuresOf_35 (by decide) ?_
      exact ih _ (by omega) _ _ rfl (by omega) (by omega) (by rw [fo_s h0, ← hb, lM_y ht ⟨h0, by omega⟩])

set_option maxRecDepth 100000 in
set_option maxHeartbeats 4000000 in
theorem ct_X11_figuresOf {g : zt_G} {M : zm_M} {q : Int → zm_M → Prop} (hw : LW (lvM M)) {t : Int} (ht : 0 ≤ t ∧ t < M 46 0) (h : q (figG (lvM M) t) M) : zc_K g yX11_figuresOf mX11_figuresOf [zv_r 46, zv_i t] M (zq_I q) := by
  refine zc_of (ls := [some (zv_r 46), some (zv_i t), none, none]) (by decide) rfl ⟨rfl, rfl⟩ (Nat.le_of_ble_eq_true rfl) rfl ?_
  have hw2 := yM hw ht
  refine zr_iconst (pc := 0) dX11_figuresOf_0 ?_
  refine zr_istore_n (pc := 1) dX11_figuresOf_1 rfl (Nat.le_of_ble_eq_true rfl) rfl ?_
  refine zr_iconst (pc := 2) dX11_figuresOf_2 ?_
  refine zr_istore_n (pc := 3) dX11_figuresOf_3 rfl (Nat.le_of_ble_eq_true rfl) rfl ?_
  exact lp_X11_figuresOf hw ht h _ _ _ rfl (by omega) (by omega) rfl

set_option maxRecDepth 100000 in
set_option maxHeartbeats 4000000 in
theorem lp_X11_allLayers {g : zt_G} {M : zm_M} {q : Int → zm_M → Prop} (hw : LW (lvM M)) (h : q (bitL (lvM M)) M) : ∀ (nn : Nat) (b k : Int), (M 46 0 - k).toNat = nn → 0 ≤ k → k ≤ M 46 0 → b = fo (fun g b => zb_or b (bitG (lvM M) g)) 0 k.toNat → zc_Z g mX11_allLayers 4 [some (zv_r 46), some (zv_i b), some (zv_i k)] [] M (zq_I q) := by
  intro nn
  induction nn using Nat.strongRecOn with
  | ind nn ih =>
    intro b k hn h0 h1 hb
    have hw1 := yMk hw
    refine zr_iload_n (pc := 4) dX11_allLayers_4 rfl rfl ?_
    refine zr_aload_n (pc := 5) dX11_allLayers_5 rfl rfl ?_
    refine zr_getI (pc := 6) (z := 0) fX11_107 lo_46 rfl rfl rfl dX11_allLayers_6 ?_
    refine zi_icmp_ge (pc := 9) (tgt := 26) dX11_allLayers_9 (by decide) (by omega) (by omega) (fun h9 => ?_) (fun h9 => ?_)
    · refine zr_iload_n (pc := 26) dX11_allLayers_26 rfl rfl ?_
      exact zr_ireturn (pc := 27) dX11_allLayers_27 rfl (zq_eq h (by unfold bitL; rw [hb, show k = M 46 0 by omega]; rfl))
    · refine zr_iload_n (pc := 12) dX11_allLayers_12 rfl rfl ?_
      refine zr_aload_n (pc := 13) dX11_allLayers_13 rfl rfl ?_
      refine zr_iload_n (pc := 14) dX11_allLayers_14 rfl rfl ?_
      refine zr_inv1I (pc := 15) rfl sX11_152 lo_46 rfl rfl rfl dX11_allLayers_15 ?_
      refine ct_X11_setOf hw ⟨h0, by omega⟩ ?_
      refine zr_ior (pc := 18) dX11_allLayers_18 ?_
      refine zr_istore_n (pc := 19) dX11_allLayers_19 rfl (Nat.le_of_ble_eq_true rfl) rfl ?_
      refine zr_iinc (pc := 20) dX11_allLayers_20 rfl (Nat.le_of_ble_eq_true rfl) rfl ?_
      refine zr_goto (pc := 23) (tgt := 4) dX11_allLayers_23 (by decide) ?_
      exact ih _ (by omega) _ _ rfl (by omega) (by omega) (by rw [fo_s h0, ← hb])

set_option maxRecDepth 100000 in
set_option maxHeartbeats 4000000 in
theorem ct_X11_allLayers {g : zt_G} {M : zm_M} {q : Int → zm_M → Prop} (hw : LW (lvM M)) (h : q (bitL (lvM M)) M) : zc_K g yX11_allLayers mX11_allLayers [zv_r 46] M (zq_I q) := by
  refine zc_of (ls := [some (zv_r 46), none, none]) (by decide) rfl ⟨rfl, rfl⟩ (Nat.le_of_ble_eq_true rfl) rfl ?_
  have hw1 := yMk hw
  refine zr_iconst (pc := 0) dX11_allLayers_0 ?_
  refine zr_istore_n (pc := 1) dX11_allLayers_1 rfl (Nat.le_of_ble_eq_true rfl) rfl ?_
  refine zr_iconst (pc := 2) dX11_allLayers_2 ?_
  refine zr_istore_n (pc := 3) dX11_allLayers_3 rfl (Nat.le_of_ble_eq_true rfl) rfl ?_
  exact lp_X11_allLayers hw h _ _ _ rfl (by omega) (by omega) rfl

set_option maxRecDepth 100000 in
set_option maxHeartbeats 4000000 in
theorem ct_X11_isHummock {g : zt_G} {M : zm_M} {q : Int → zm_M → Prop} {l : Int} (hl : 0 ≤ l ∧ l ≤ 1) (hw : CW (cvG M 51 (14 * l))) {t : Int} (ht : 0 ≤ t ∧ t < M 46 1) (h : q (zb_B (9 ≤ ch (cvG M 51 (14 * l)) t)) M) : zc_K g yX11_isHummock mX11_isHummock [zv_r 46, zv_i l, zv_i t] M (zq_I q) := by
  refine zc_of (ls := [some (zv_r 46), some (zv_i l), some (zv_i t)]) (by decide) rfl ⟨rfl, rfl⟩ (Nat.le_of_ble_eq_true rfl) rfl ?_
  have hw1 := wGt hw
  have hw2 := wG hw ht
  rw [vG_h ht rfl] at h
  refine zr_aload_n (pc := 0) dX11_isHummock_0 rfl rfl ?_
  refine zr_getR (pc := 1) fX11_22 lo_46 rfl rfl dX11_isHummock_1 ?_
  refine zr_bipush (pc := 4) dX11_isHummock_4 (by decide) ?_
  refine zr_iload_n (pc := 6) dX11_isHummock_6 rfl rfl ?_
  refine zr_imul (pc := 7) dX11_isHummock_7 ?_
  refine zr_bipush (pc := 8) dX11_isHummock_8 (by decide) ?_
  refine zr_iadd (pc := 10) dX11_isHummock_10 ?_
  refine zr_iload_n (pc := 11) dX11_isHummock_11 rfl rfl ?_
  refine zr_iadd (pc := 12) dX11_isHummock_12 ?_
  refine zr_iaload (pc := 13) lo_51 (by omega) dX11_isHummock_13 ?_
  refine zr_bipush (pc := 14) dX11_isHummock_14 (by decide) ?_
  refine zi_icmp_ne (pc := 16) (tgt := 23) dX11_isHummock_16 (by decide) (by omega) (by omega) (fun h16 => ?_) (fun h16 => ?_)
  · refine zr_iconst (pc := 23) dX11_isHummock_23 ?_
    exact zr_zreturn (pc := 24) dX11_isHummock_24 rfl (by decide) (zq_eq h (zb_F (by omega)))
  · refine zr_iconst (pc := 19) dX11_isHummock_19 ?_
    refine zr_goto (pc := 20) (tgt := 24) dX11_isHummock_20 (by decide) ?_
    exact zr_zreturn (pc := 24) dX11_isHummock_24 rfl (by decide) (zq_eq h (zb_T (by omega)))

set_option maxRecDepth 100000 in
set_option maxHeartbeats 4000000 in
theorem ct_X11_speedOf {g : zt_G} {M : zm_M} {q : Int → zm_M → Prop} {l : Int} (hl : 0 ≤ l ∧ l ≤ 1) (hw : CW (cvG M 51 (14 * l))) {t : Int} (ht : 0 ≤ t ∧ t < M 46 1) (h : q (3 - ch (cvG M 51 (14 * l)) t / 3) M) : zc_K g yX11_speedOf mX11_speedOf [zv_r 46, zv_i l, zv_i t] M (zq_I q) := by
  refine zc_of (ls := [some (zv_r 46), some (zv_i l), some (zv_i t)]) (by decide) rfl ⟨rfl, rfl⟩ (Nat.le_of_ble_eq_true rfl) rfl ?_
  have hw1 := wGt hw
  have hw2 := wG hw ht
  rw [vG_h ht rfl] at h
  refine zr_iconst (pc := 0) dX11_speedOf_0 ?_
  refine zr_aload_n (pc := 1) dX11_speedOf_1 rfl rfl ?_
  refine zr_getR (pc := 2) fX11_22 lo_46 rfl rfl dX11_speedOf_2 ?_
  refine zr_bipush (pc := 5) dX11_speedOf_5 (by decide) ?_
  refine zr_iload_n (pc := 7) dX11_speedOf_7 rfl rfl ?_
  refine zr_imul (pc := 8) dX11_speedOf_8 ?_
  refine zr_bipush (pc := 9) dX11_speedOf_9 (by decide) ?_
  refine zr_iadd (pc := 11) dX11_speedOf_11 ?_
  refine zr_iload_n (pc := 12) dX11_speedOf_12 rfl rfl ?_
  refine zr_iadd (pc := 13) dX11_speedOf_13 ?_
  refine zr_iaload (pc := 14) lo_51 (by omega) dX11_speedOf_14 ?_
  refine zr_iconst (pc := 15) dX11_speedOf_15 ?_
  refine zr_idiv (pc := 16) (by omega) (by omega) dX11_speedOf_16 ?_
  refine zr_isub (pc := 17) dX11_speedOf_17 ?_
  exact zr_ireturn (pc := 18) dX11_speedOf_18 rfl (zq_eq h (by omega))

