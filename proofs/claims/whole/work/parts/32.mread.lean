/-! bits of sets -/
theorem bt_tb (w t : Int) : bt w t = w.toNat.testBit t.toNat := by
  unfold bt
  rw [Nat.testBit_eq_decide_div_mod_eq]
theorem bt_or {a b t : Int} (k : Nat) (hk : k ≤ 31) (ha : 0 ≤ a ∧ a < 2 ^ k) (hb : 0 ≤ b ∧ b < 2 ^ k) : bt (zb_or a b) t = (bt a t || bt b t) := by
  obtain ⟨a, rfl⟩ := Int.eq_ofNat_of_zero_le ha.1
  obtain ⟨b, rfl⟩ := Int.eq_ofNat_of_zero_le hb.1
  rw [pw_n] at ha hb
  rw [zb_or_n a b k hk (by omega) (by omega), bt_tb, bt_tb, bt_tb]
  simp only [Int.toNat_natCast]
  rw [Nat.testBit_or]
theorem or_rng {a b : Int} (k : Nat) (hk : k ≤ 31) (ha : 0 ≤ a ∧ a < 2 ^ k) (hb : 0 ≤ b ∧ b < 2 ^ k) : 0 ≤ zb_or a b ∧ zb_or a b < 2 ^ k := by
  obtain ⟨a, rfl⟩ := Int.eq_ofNat_of_zero_le ha.1
  obtain ⟨b, rfl⟩ := Int.eq_ofNat_of_zero_le hb.1
  rw [pw_n] at ha hb ⊢
  rw [zb_or_n a b k hk (by omega) (by omega)]
  have := Nat.or_lt_two_pow (n := k) (x := a) (y := b) (by omega) (by omega)
  omega
theorem shl1 : ∀ r : Nat, r < 31 → zb_shl 1 (r : Int) = ((2 ^ r : Nat) : Int) := by decide +kernel
theorem bt_s1 {r t : Int} (hr : 0 ≤ r ∧ r < 31) (ht : 0 ≤ t) : bt (zb_shl 1 r) t = decide (t = r) := by
  obtain ⟨r, rfl⟩ := Int.eq_ofNat_of_zero_le hr.1
  obtain ⟨t, rfl⟩ := Int.eq_ofNat_of_zero_le ht
  rw [shl1 r (by omega), bt_tb]
  simp only [Int.toNat_natCast]
  rw [Nat.testBit_two_pow]
  by_cases e : r = t
  · subst e
    simp
  · rw [decide_eq_false e, decide_eq_false (by omega)]
theorem s1_rng {r : Int} (k : Nat) (hk : k ≤ 31) (hr : 0 ≤ r ∧ r < k) : 0 ≤ zb_shl 1 r ∧ zb_shl 1 r < 2 ^ k := by
  obtain ⟨r, rfl⟩ := Int.eq_ofNat_of_zero_le hr.1
  rw [shl1 r (by omega), pw_n]
  have := Nat.pow_lt_pow_right (a := 2) (m := r) (n := k) (by decide) (by omega)
  exact ⟨Int.natCast_nonneg _, Int.ofNat_lt.mpr this⟩
/-! reading, in the reference's cells -/
def lvR (M : zm_M) : Ln := (M 46 11, msk (M 46 11) (M 52), msk (M 46 11) (M 53), fun g k => if (0 ≤ g ∧ g < M 46 11) ∧ 0 ≤ k ∧ k < M 53 g then M 54 (4 * g + k) else 0)
def cvR (M : zm_M) : Cm := (msk (M 46 12) (fun t => M 55 (2 * t)), msk (M 46 12) (fun t => M 55 (2 * t + 1)), fun _ => 0, fun _ => 0, 0, M 46 12, 0)
/-- the land as it will be when the kiln that is being read has n layers -/
def vK (M : zm_M) (K n : Int) : Ln := (K + 1, msk (K + 1) (M 52), msk (K + 1) (upI (M 53) K n), fun g k => if (0 ≤ g ∧ g < K + 1) ∧ 0 ≤ k ∧ k < upI (M 53) K n g then M 54 (4 * g + k) else 0)
theorem lvR_fr {M M2 : zm_M} (h0 : M2 46 11 = M 46 11) (h : ∀ (k : Nat) (i : Int), 52 ≤ k → k ≤ 54 → M2 k i = M k i) : lvR M2 = lvR M := by
  unfold lvR
  have e1 : M2 52 = M 52 := funext fun i => h 52 i (by omega) (by omega)
  have e2 : M2 53 = M 53 := funext fun i => h 53 i (by omega) (by omega)
  have e3 : M2 54 = M 54 := funext fun i => h 54 i (by omega) (by omega)
  rw [h0, e1, e2, e3]
theorem vK_fr {M M2 : zm_M} {K n : Int} (h : ∀ (k : Nat) (i : Int), 52 ≤ k → k ≤ 54 → M2 k i = M k i) : vK M2 K n = vK M K n := by
  unfold vK
  have e1 : M2 52 = M 52 := funext fun i => h 52 i (by omega) (by omega)
  have e2 : M2 53 = M 53 := funext fun i => h 53 i (by omega) (by omega)
  have e3 : M2 54 = M 54 := funext fun i => h 54 i (by omega) (by omega)
  rw [e1, e2, e3]
theorem cvR_fr {M M2 : zm_M} (h0 : M2 46 12 = M 46 12) (h : ∀ i, M2 55 i = M 55 i) : cvR M2 = cvR M := by
  unfold cvR
  have e1 : M2 55 = M 55 := funext h
  rw [h0, e1]
theorem vK_end {M : zm_M} {K n : Int} : lvR (zm_put (zm_put M 53 K n) 46 11 (K + 1)) = vK M K n := by
  unfold lvR vK
  rw [put_at]
  have e1 : zm_put (zm_put M 53 K n) 46 11 (K + 1) 52 = M 52 := funext fun i => by rw [put_nk _ _ _ _ (by decide), put_nk _ _ _ _ (by decide)]
  have e2 : zm_put (zm_put M 53 K n) 46 11 (K + 1) 53 = upI (M 53) K n := by rw [put_ne _ _ _ (by decide), put_up]
  have e3 : zm_put (zm_put M 53 K n) 46 11 (K + 1) 54 = M 54 := funext fun i => by rw [put_nk _ _ _ _ (by decide), put_nk _ _ _ _ (by decide)]
  rw [e1, e2, e3]
theorem vK_st {M : zm_M} {r : Int} (h : 0 ≤ M 46 11) : vK (zm_put M 52 (M 46 11) r) (M 46 11) 0 = lAdK r (lvR M) := by
  unfold vK lAdK lvR
  rw [put_up, put_ne _ _ _ (by decide), put_ne _ _ _ (by decide), msk_s h, msk_s h]
  refine Prod.ext rfl (Prod.ext rfl (Prod.ext rfl ?_))
  funext g k
  dsimp only
  by_cases hg : g = M 46 11
  · rw [if_neg (fun y => by rw [hg, upI_s] at y; omega), if_neg (by omega)]
  · rw [upI_n hg]
    by_cases hc : (0 ≤ g ∧ g < M 46 11) ∧ 0 ≤ k ∧ k < M 53 g
    · rw [if_pos hc, if_pos ⟨by omega, hc.2⟩]
    · rw [if_neg hc, if_neg (fun y => hc ⟨by omega, y.2⟩)]
theorem vK_ad {M : zm_M} {K n v : Int} (hK : 0 ≤ K) (hn : 0 ≤ n ∧ n < 4) (hd : ∀ g, 0 ≤ g → g < K → M 53 g ≤ 4) : vK (zm_put M 54 (4 * K + n) v) K (n + 1) = lAdL v (vK M K n) := by
  unfold vK lAdL
  rw [put_ne _ _ _ (by decide), put_ne _ _ _ (by decide), put_up]
  dsimp only
  rw [show K + 1 - 1 = K by omega]
  have e1 : msk (K + 1) (upI (M 53) K n) K = n := by rw [msk_in hK (by omega), upI_s]
  simp only [e1]
  refine Prod.ext rfl (Prod.ext rfl (Prod.ext ?_ ?_))
  · dsimp only
    rw [← msk_up hK (by omega)]
    congr 1
    funext i
    unfold upI
    split <;> rfl
  · funext g k
    dsimp only
    by_cases hg : g = K
    · subst hg
      rw [upI_s, upI_s]
      by_cases hk : k = n
      · subst hk
        rw [if_pos ⟨by omega, by omega⟩, if_pos ⟨rfl, rfl⟩, upI_s]
      · rw [if_neg (show ¬ (g = g ∧ k = n) from fun y => hk y.2), upI_n (by omega)]
        by_cases hc : 0 ≤ k ∧ k < n
        · rw [if_pos ⟨by omega, by omega⟩, if_pos ⟨by omega, hc⟩]
        · rw [if_neg (fun y => hc (by omega)), if_neg (fun y => hc y.2)]
    · rw [upI_n hg, upI_n hg, if_neg (show ¬ (g = K ∧ k = n) from fun y => hg y.1)]
      by_cases hc : (0 ≤ g ∧ g < K + 1) ∧ 0 ≤ k ∧ k < M 53 g
      · have := hd g hc.1.1 (by omega)
        rw [if_pos hc, if_pos hc, upI_n (by omega)]
      · rw [if_neg hc, if_neg hc]
theorem vK_b {M : zm_M} {K n : Int} (hK : 0 ≤ K) : bitG (vK M K n) K = fo (fun k b => zb_or b (zb_shl 1 (M 54 (4 * K + k)))) 0 n.toNat := by
  unfold bitG
  have e1 : (vK M K n).2.2.1 K = n := by
    show msk (K + 1) (upI (M 53) K n) K = n
    rw [msk_in hK (by omega), upI_s]
  rw [e1]
  refine fo_c (fun i b h0 h1 => ?_)
  have e2 : (vK M K n).2.2.2 K i = M 54 (4 * K + i) := if_pos ⟨⟨hK, by omega⟩, h0, by rw [upI_s]; omega⟩
  rw [e2]
theorem cvR_ad {M : zm_M} {a b : Int} (h : 0 ≤ M 46 12) : cvR (zm_put (zm_put (zm_put M 55 (2 * M 46 12) a) 55 (2 * M 46 12 + 1) b) 46 12 (M 46 12 + 1)) = cAdT a b (cvR M) := by
  unfold cvR cAdT
  rw [put_at, put_ne _ _ _ (show 55 ≠ 46 by decide), put_up, put_up]
  have e1 : msk (M 46 12 + 1) (fun t => upI (upI (M 55) (2 * M 46 12) a) (2 * M 46 12 + 1) b (2 * t)) = upI (msk (M 46 12) (fun t => M 55 (2 * t))) (M 46 12) a := by
    rw [← msk_s h]
    congr 1
    funext i
    unfold upI
    by_cases e : i = M 46 12
    · rw [if_neg (by omega), if_pos (by omega), if_pos e]
    · rw [if_neg (by omega), if_neg (by omega), if_neg e]
  have e2 : msk (M 46 12 + 1) (fun t => upI (upI (M 55) (2 * M 46 12) a) (2 * M 46 12 + 1) b (2 * t + 1)) = upI (msk (M 46 12) (fun t => M 55 (2 * t + 1))) (M 46 12) b := by
    rw [← msk_s h]
    congr 1
    funext i
    unfold upI
    by_cases e : i = M 46 12
    · rw [if_pos (by omega), if_pos e]
    · rw [if_neg (by omega), if_neg (by omega), if_neg e]
  rw [e1, e2]
  have e3 : upI (fun _ => (0 : Int)) (M 46 12) 0 = fun _ => 0 := by
    funext i
    unfold upI
    split <;> rfl
  rw [e3]
theorem kat_no {f : Int → Int} {p : Int} : ∀ (n : Nat) (g : Int), 0 ≤ g → (kat f p n g = -9 ↔ ∀ j, g ≤ j → j < g + n → ¬ f j = p)
  | 0, g, _ => ⟨fun _ j a b => by omega, fun _ => rfl⟩
  | n + 1, g, hg => by
    unfold kat
    split
    · rename_i h
      exact ⟨fun e => by omega, fun e => absurd h (e g (by omega) (by omega))⟩
    · rename_i h
      rw [kat_no n (g + 1) (by omega)]
      constructor
      · intro e j a b
        by_cases hj : j = g
        · rw [hj]
          exact h
        · exact e j (by omega) (by omega)
      · intro e j a b
        exact e j (by omega) (by omega)
theorem kiA_no {L : Ln} {p : Int} (h : 0 ≤ L.1) : kiA L p = -9 ↔ ∀ j, 0 ≤ j → j < L.1 → ¬ L.2.1 j = p := by
  unfold kiA
  rw [kat_no _ _ (Int.le_refl 0)]
  constructor
  · intro e j a b
    exact e j a (by omega)
  · intro e j a b
    exact e j a (by omega)
theorem kiA_ad {L : Ln} {p r : Int} (h : 0 ≤ L.1) : kiA (lAdK r L) p = -9 ↔ (kiA L p = -9 ∧ ¬ r = p) := by
  rw [kiA_no (L := lAdK r L) (by show 0 ≤ L.1 + 1; omega), kiA_no h]
  constructor
  · intro e
    refine ⟨fun j a b => ?_, ?_⟩
    · have := e j a (by show j < L.1 + 1; omega)
      rw [show (lAdK r L).2.1 j = upI L.2.1 L.1 r j from rfl, upI_n (by omega)] at this
      exact this
    · have := e L.1 h (by show L.1 < L.1 + 1; omega)
      rw [show (lAdK r L).2.1 L.1 = upI L.2.1 L.1 r L.1 from rfl, upI_s] at this
      exact this
  · intro e j a b
    have b2 : j < L.1 + 1 := b
    show ¬ upI L.2.1 L.1 r j = p
    by_cases hj : j = L.1
    · rw [hj, upI_s]
      exact e.2
    · rw [upI_n hj]
      exact e.1 j a (by omega)
def PL (P : Int) (L : Ln) : Prop := (0 ≤ P ∧ P < 1024) ∧ ∀ p, 0 ≤ p → p < 10 → (bt P p = true ↔ ¬ kiA L p = -9)
theorem PL_ad {P r : Int} {L : Ln} (h : PL P L) (hL : 0 ≤ L.1) (hr : 0 ≤ r ∧ r ≤ 9) : PL (zb_or P (zb_shl 1 r)) (lAdK r L) := by
  have h1 := s1_rng (r := r) 10 (by decide) (by omega)
  have h2 : 0 ≤ P ∧ P < 2 ^ 10 := h.1
  refine ⟨or_rng 10 (by decide) h2 h1, fun p a b => ?_⟩
  rw [bt_or 10 (by decide) h2 h1, bt_s1 (by omega) a, kiA_ad hL, Bool.or_eq_true, h.2 p a b, decide_eq_true_eq]
  omega
theorem rd_ok {f : Int → Int} {n i : Int} {S S2 : Rs} {R0 : Int × Rs} (hi : i < n) (e : tkS (f i) S = some S2) (h : rdA f (n - i).toNat i S = R0) : rdA f (n - (i + 1)).toNat (i + 1) S2 = R0 := by
  rw [show (n - i).toNat = (n - (i + 1)).toNat + 1 by omega] at h
  unfold rdA at h
  rw [e] at h
  exact h
theorem rd_no {f : Int → Int} {n i : Int} {S : Rs} {R0 : Int × Rs} (hi : i < n) (e : tkS (f i) S = none) (h : rdA f (n - i).toNat i S = R0) : R0.1 = i := by
  rw [show (n - i).toNat = (n - (i + 1)).toNat + 1 by omega] at h
  unfold rdA at h
  rw [e] at h
  rw [← h]
theorem rd_en {f : Int → Int} {n i : Int} {S : Rs} {R0 : Int × Rs} (hi : n ≤ i) (h : rdA f (n - i).toNat i S = R0) : R0 = (if S.1 = 1 ∨ S.1 = 4 then -9 else i, S) := by
  rw [show (n - i).toNat = 0 by omega] at h
  rw [← h]
  rfl
theorem bgS_no {x : Int} {S : Rs} (h : 97 ≤ x) : bgS x S = none := by
  unfold bgS
  rw [if_neg (by omega), if_neg (by omega)]
def frRd (M M2 : zm_M) : Prop := ∀ (k : Nat) (i : Int), ¬ (52 ≤ k ∧ k ≤ 55) → ¬ (k = 46 ∧ (i = 11 ∨ i = 12 ∨ i = 13 ∨ i = 16 ∨ i = 17)) → M2 k i = M k i
theorem frRd.put {M M2 : zm_M} (h : frRd M M2) (k : Nat) (i v : Int) (hk : (52 ≤ k ∧ k ≤ 55) ∨ (k = 46 ∧ (i = 11 ∨ i = 12 ∨ i = 13 ∨ i = 16 ∨ i = 17))) : frRd M (zm_put M2 k i v) := by
  intro k2 i2 h2 h3
  unfold zm_put
  rw [if_neg (fun x => by
    obtain ⟨e1, e2⟩ := x
    subst e1
    subst e2
    rcases hk with hk | hk
    · exact h2 hk
    · exact h3 hk)]
  exact h k2 i2 h2 h3
/-- found at fault -/
def rdB (R0 : Int × Rs) (M : zm_M) : Prop := M 46 17 = R0.1 ∧ 0 ≤ R0.1 ∧ R0.1 ≤ 48
/-- reading on -/
def rdG (B : zm_M) (R0 : Int × Rs) (st tp : Int) (L : Ln) (C : Cm) (M : zm_M) : Prop := M 46 17 = -9 ∧ (0 ≤ M 46 16 ∧ M 46 16 ≤ B 46 15) ∧ RW (st, tp, L, C) ∧ rdA (B 56) (B 46 15 - M 46 16).toNat (M 46 16) (st, tp, L, C) = R0
set_option maxRecDepth 100000 in
set_option maxHeartbeats 4000000 in
theorem ct_X11_nextOf {g : zt_G} {M : zm_M} {q : Int → zm_M → Prop} {a b c : Int} (hl : 0 ≤ M 46 16 ∧ M 46 16 ≤ 48) (hn : 0 ≤ M 46 15 ∧ M 46 15 ≤ 48) (hx : M 46 16 < M 46 15 → 0 ≤ M 56 (M 46 16) ∧ M 56 (M 46 16) ≤ 255) (hf : zi (M 46 17)) (ha : 0 ≤ a ∧ a ≤ 255) (hb : 0 ≤ b ∧ b ≤ 9) (hc : 0 ≤ c ∧ c < 1024) (hA : ¬ M 46 17 = -9 → q 0 M) (hB : M 46 17 = -9 → M 46 16 < M 46 15 → (0 ≤ M 56 (M 46 16) - a ∧ M 56 (M 46 16) - a ≤ b) → ¬ bt c (M 56 (M 46 16) - a) = true → q (M 56 (M 46 16) - a) (zm_put M 46 16 (M 46 16 + 1))) (hC : M 46 17 = -9 → (M 46 16 < M 46 15 → ¬ ((0 ≤ M 56 (M 46 16) - a ∧ M 56 (M 46 16) - a ≤ b) ∧ ¬ bt c (M 56 (M 46 16) - a) = true)) → q 0 (zm_put M 46 17 (M 46 16))) : zc_K g yX11_nextOf mX11_nextOf [zv_r 46, zv_i a, zv_i b, zv_i c] M (zq_I q) := by
  refine zc_of (ls := [some (zv_r 46), some (zv_i a), some (zv_i b), some (zv_i c), none, none]) (by decide) rfl ⟨rfl, rfl⟩ (Nat.le_of_ble_eq_true rfl) rfl ?_
  refine zr_aload_n (pc := 0) dX11_nextOf_0 rfl rfl ?_
  refine zr_getI (pc := 1) (z := 17) fX11_69 lo_46 rfl rfl rfl dX11_nextOf_1 ?_
  refine zr_bipush (pc := 4) dX11_nextOf_4 (by decide) ?_
  refine zi_icmp_ne (pc := 6) (tgt := 24) dX11_nextOf_6 (by decide) (by omega) (by omega) (fun h6 => ?_) (fun h6 => ?_)
  · refine zr_iconst (pc := 24) dX11_nextOf_24 ?_
    refine zr_istore (pc := 25) dX11_nextOf_25 (Nat.le_of_ble_eq_true rfl) rfl ?_
    refine zr_iload (pc := 27) dX11_nextOf_27 rfl ?_
    refine zi_if_eq (pc := 29) (tgt := 46) dX11_nextOf_29 (by decide) (by decide) (fun h29 => ?_) (fun h29 => ?_)
    · refine zr_iconst (pc := 46) dX11_nextOf_46 ?_
      refine zr_istore (pc := 47) dX11_nextOf_47 (Nat.le_of_ble_eq_true rfl) rfl ?_
      refine zr_iload (pc := 49) dX11_nextOf_49 rfl ?_
      refine zi_if_eq (pc := 51) (tgt := 75) dX11_nextOf_51 (by decide) (by decide) (fun h51 => ?_) (fun h51 => ?_)
      · refine zr_aload_n (pc := 75) dX11_nextOf_75 rfl rfl ?_
        refine zr_aload_n (pc := 76) dX11_nextOf_76 rfl rfl ?_
        refine zr_getI (pc := 77) (z := 17) fX11_69 lo_46 rfl rfl rfl dX11_nextOf_77 ?_
        refine zr_bipush (pc := 80) dX11_nextOf_80 (by decide) ?_
        refine zi_icmp_ne (pc := 82) (tgt := 92) dX11_nextOf_82 (by decide) (by omega) (by omega) (fun h82 => ?_) (fun h82 => ?_)
        · refine zr_aload_n (pc := 92) dX11_nextOf_92 rfl rfl ?_
          refine zr_getI (pc := 93) (z := 17) fX11_69 lo_46 rfl rfl rfl dX11_nextOf_93 ?_
          refine zr_putI (pc := 96) (z := 17) fX11_69 lo_46 rfl fwX11_17 rfl rfl dX11_nextOf_96 ?_
          refine zr_iconst (pc := 99) dX11_nextOf_99 ?_
          exact zr_ireturn (pc := 100) dX11_nextOf_100 rfl (by rw [put_self]; exact hA h6)
        · refine zr_aload_n (pc := 85) dX11_nextOf_85 rfl rfl ?_
          refine zr_getI (pc := 86) (z := 16) fX11_72 lo_46 rfl rfl rfl dX11_nextOf_86 ?_
          refine zr_goto (pc := 89) (tgt := 96) dX11_nextOf_89 (by decide) ?_
          refine zr_putI (pc := 96) (z := 17) fX11_69 lo_46 rfl fwX11_17 rfl rfl dX11_nextOf_96 ?_
          refine zr_iconst (pc := 99) dX11_nextOf_99 ?_
          exact zr_ireturn (pc := 100) dX11_nextOf_100 rfl (absurd h82 h6)
      · exact absurd h51 (by decide)
    · exact absurd h29 (by decide)
  · refine zr_aload_n (pc := 9) dX11_nextOf_9 rfl rfl ?_
    refine zr_getI (pc := 10) (z := 16) fX11_72 lo_46 rfl rfl rfl dX11_nextOf_10 ?_
    refine zr_aload_n (pc := 13) dX11_nextOf_13 rfl rfl ?_
    refine zr_getI (pc := 14) (z := 15) fX11_65 lo_46 rfl rfl rfl dX11_nextOf_14 ?_
    refine zi_icmp_ge (pc := 17) (tgt := 24) dX11_nextOf_17 (by decide) (by omega) (by omega) (fun h17 => ?_) (fun h17 => ?_)
    · refine zr_iconst (pc := 24) dX11_nextOf_24 ?_
      refine zr_istore (pc := 25) dX11_nextOf_25 (Nat.le_of_ble_eq_true rfl) rfl ?_
      refine zr_iload (pc := 27) dX11_nextOf_27 rfl ?_
      refine zi_if_eq (pc := 29) (tgt := 46) dX11_nextOf_29 (by decide) (by decide) (fun h29 => ?_) (fun h29 => ?_)
      · refine zr_iconst (pc := 46) dX11_nextOf_46 ?_
        refine zr_istore (pc := 47) dX11_nextOf_47 (Nat.le_of_ble_eq_true rfl) rfl ?_
        refine zr_iload (pc := 49) dX11_nextOf_49 rfl ?_
        refine zi_if_eq (pc := 51) (tgt := 75) dX11_nextOf_51 (by decide) (by decide) (fun h51 => ?_) (fun h51 => ?_)
        · refine zr_aload_n (pc := 75) dX11_nextOf_75 rfl rfl ?_
          refine zr_aload_n (pc := 76) dX11_nextOf_76 rfl rfl ?_
          refine zr_getI (pc := 77) (z := 17) fX11_69 lo_46 rfl rfl rfl dX11_nextOf_77 ?_
          refine zr_bipush (pc := 80) dX11_nextOf_80 (by decide) ?_
          refine zi_icmp_ne (pc := 82) (tgt := 92) dX11_nextOf_82 (by decide) (by omega) (by omega) (fun h82 => ?_) (fun h82 => ?_)
          · refine zr_aload_n (pc := 92) dX11_nextOf_92 rfl rfl ?_
            refine zr_getI (pc := 93) (z := 17) fX11_69 lo_46 rfl rfl rfl dX11_nextOf_93 ?_
            refine zr_putI (pc := 96) (z := 17) fX11_69 lo_46 rfl fwX11_17 rfl rfl dX11_nextOf_96 ?_
            refine zr_iconst (pc := 99) dX11_nextOf_99 ?_
            exact zr_ireturn (pc := 100) dX11_nextOf_100 rfl (absurd h82 (by omega))
          · refine zr_aload_n (pc := 85) dX11_nextOf_85 rfl rfl ?_
            refine zr_getI (pc := 86) (z := 16) fX11_72 lo_46 rfl rfl rfl dX11_nextOf_86 ?_
            refine zr_goto (pc := 89) (tgt := 96) dX11_nextOf_89 (by decide) ?_
            refine zr_putI (pc := 96) (z := 17) fX11_69 lo_46 rfl fwX11_17 rfl rfl dX11_nextOf_96 ?_
            refine zr_iconst (pc := 99) dX11_nextOf_99 ?_
            exact zr_ireturn (pc := 100) dX11_nextOf_100 rfl (hC h6 (fun y => absurd y (by omega)))
        · exact absurd h51 (by decide)
      · exact absurd h29 (by decide)
    · refine zr_iconst (pc := 20) dX11_nextOf_20 ?_
      refine zr_goto (pc := 21) (tgt := 25) dX11_nextOf_21 (by decide) ?_
      refine zr_istore (pc := 25) dX11_nextOf_25 (Nat.le_of_ble_eq_true rfl) rfl ?_
      refine zr_iload (pc := 27) dX11_nextOf_27 rfl ?_
      refine zi_if_eq (pc := 29) (tgt := 46) dX11_nextOf_29 (by decide) (by decide) (fun h29 => ?_) (fun h29 => ?_)
      · exact absurd h29 (by decide)
      · have hx2 := hx h17
        refine zr_aload_n (pc := 32) dX11_nextOf_32 rfl rfl ?_
        refine zr_getR (pc := 33) fX11_37 lo_46 rfl rfl dX11_nextOf_33 ?_
        refine zr_aload_n (pc := 36) dX11_nextOf_36 rfl rfl ?_
        refine zr_getI (pc := 37) (z := 16) fX11_72 lo_46 rfl rfl rfl dX11_nextOf_37 ?_
        refine zr_iaload (pc := 40) lo_56 (by omega) dX11_nextOf_40 ?_
        refine zr_iload_n (pc := 41) dX11_nextOf_41 rfl rfl ?_
        refine zr_isub (pc := 42) dX11_nextOf_42 ?_
        refine zr_goto (pc := 43) (tgt := 47) dX11_nextOf_43 (by decide) ?_
        refine zr_istore (pc := 47) dX11_nextOf_47 (Nat.le_of_ble_eq_true rfl) rfl ?_
        refine zr_iload (pc := 49) dX11_nextOf_49 rfl ?_
        refine zi_if_eq (pc := 51) (tgt := 75) dX11_nextOf_51 (by decide) (by decide) (fun h51 => ?_) (fun h51 => ?_)
        · exact absurd h51 (by decide)
        · refine zr_iload (pc := 54) dX11_nextOf_54 rfl ?_
          refine zr_i2l (pc := 56) dX11_nextOf_56 ?_
          refine zr_lconst (pc := 57) (z := 0) dX11_nextOf_57 (by decide +kernel) ?_
          refine zr_iload_n (pc := 58) dX11_nextOf_58 rfl rfl ?_
          refine zr_i2l (pc := 59) dX11_nextOf_59 ?_
          refine zr_stat3I (pc := 60) rfl sX11_61 rfl rfl dX11_nextOf_60 ?_
          rw [zw_id (z := b) (by omega) (by omega)]
          refine in_i (by omega) (by omega) (by omega) ?_
          refine zr_ifb_eq (pc := 63) (tgt := 75) dX11_nextOf_63 (by decide) (fun h63 => ?_) (fun h63 => ?_)
          · refine zr_aload_n (pc := 75) dX11_nextOf_75 rfl rfl ?_
            refine zr_aload_n (pc := 76) dX11_nextOf_76 rfl rfl ?_
            refine zr_getI (pc := 77) (z := 17) fX11_69 lo_46 rfl rfl rfl dX11_nextOf_77 ?_
            refine zr_bipush (pc := 80) dX11_nextOf_80 (by decide) ?_
            refine zi_icmp_ne (pc := 82) (tgt := 92) dX11_nextOf_82 (by decide) (by omega) (by omega) (fun h82 => ?_) (fun h82 => ?_)
            · refine zr_aload_n (pc := 92) dX11_nextOf_92 rfl rfl ?_
              refine zr_getI (pc := 93) (z := 17) fX11_69 lo_46 rfl rfl rfl dX11_nextOf_93 ?_
              refine zr_putI (pc := 96) (z := 17) fX11_69 lo_46 rfl fwX11_17 rfl rfl dX11_nextOf_96 ?_
              refine zr_iconst (pc := 99) dX11_nextOf_99 ?_
              exact zr_ireturn (pc := 100) dX11_nextOf_100 rfl (absurd h82 (by omega))
            · refine zr_aload_n (pc := 85) dX11_nextOf_85 rfl rfl ?_
              refine zr_getI (pc := 86) (z := 16) fX11_72 lo_46 rfl rfl rfl dX11_nextOf_86 ?_
              refine zr_goto (pc := 89) (tgt := 96) dX11_nextOf_89 (by decide) ?_
              refine zr_putI (pc := 96) (z := 17) fX11_69 lo_46 rfl fwX11_17 rfl rfl dX11_nextOf_96 ?_
              refine zr_iconst (pc := 99) dX11_nextOf_99 ?_
              exact zr_ireturn (pc := 100) dX11_nextOf_100 rfl (hC h6 (fun y => fun z => h63 z.1))
          · refine zr_iload_n (pc := 66) dX11_nextOf_66 rfl rfl ?_
            refine zr_iload (pc := 67) dX11_nextOf_67 rfl ?_
            refine zr_stat2I (pc := 69) rfl sX11_75 rfl rfl dX11_nextOf_69 ?_
            refine ct_X11_has (by omega) (by omega) ?_
            refine zr_ifb_eq (pc := 72) (tgt := 101) dX11_nextOf_72 (by decide) (fun h72 => ?_) (fun h72 => ?_)
            · refine zr_aload_n (pc := 101) dX11_nextOf_101 rfl rfl ?_
              refine zr_dup_r (pc := 102) dX11_nextOf_102 ?_
              refine zr_getI (pc := 103) (z := 16) fX11_72 lo_46 rfl rfl rfl dX11_nextOf_103 ?_
              refine zr_iconst (pc := 106) dX11_nextOf_106 ?_
              refine zr_iadd (pc := 107) dX11_nextOf_107 ?_
              refine zr_putI (pc := 108) (z := 16) fX11_72 lo_46 rfl fwX11_16 rfl rfl dX11_nextOf_108 ?_
              refine zr_iload (pc := 111) dX11_nextOf_111 rfl ?_
              exact zr_ireturn (pc := 113) dX11_nextOf_113 rfl (hB h6 h17 h63 h72)
            · refine zr_aload_n (pc := 75) dX11_nextOf_75 rfl rfl ?_
              refine zr_aload_n (pc := 76) dX11_nextOf_76 rfl rfl ?_
              refine zr_getI (pc := 77) (z := 17) fX11_69 lo_46 rfl rfl rfl dX11_nextOf_77 ?_
              refine zr_bipush (pc := 80) dX11_nextOf_80 (by decide) ?_
              refine zi_icmp_ne (pc := 82) (tgt := 92) dX11_nextOf_82 (by decide) (by omega) (by omega) (fun h82 => ?_) (fun h82 => ?_)
              · refine zr_aload_n (pc := 92) dX11_nextOf_92 rfl rfl ?_
                refine zr_getI (pc := 93) (z := 17) fX11_69 lo_46 rfl rfl rfl dX11_nextOf_93 ?_
                refine zr_putI (pc := 96) (z := 17) fX11_69 lo_46 rfl fwX11_17 rfl rfl dX11_nextOf_96 ?_
                refine zr_iconst (pc := 99) dX11_nextOf_99 ?_
                exact zr_ireturn (pc := 100) dX11_nextOf_100 rfl (absurd h82 (by omega))
              · refine zr_aload_n (pc := 85) dX11_nextOf_85 rfl rfl ?_
                refine zr_getI (pc := 86) (z := 16) fX11_72 lo_46 rfl rfl rfl dX11_nextOf_86 ?_
                refine zr_goto (pc := 89) (tgt := 96) dX11_nextOf_89 (by decide) ?_
                refine zr_putI (pc := 96) (z := 17) fX11_69 lo_46 rfl fwX11_17 rfl rfl dX11_nextOf_96 ?_
                refine zr_iconst (pc := 99) dX11_nextOf_99 ?_
                exact zr_ireturn (pc := 100) dX11_nextOf_100 rfl (hC h6 (fun y => fun z => z.2 h72))

set_option maxRecDepth 100000 in
set_option maxHeartbeats 4000000 in
theorem lp_X11_readOneF {g : zt_G} {B : zm_M} {q : zm_M → Prop} {R0 : Int × Rs} (hn : 0 ≤ B 46 15 ∧ B 46 15 ≤ 48) (hx : ∀ i, 0 ≤ i → i < B 46 15 → 0 ≤ B 56 i ∧ B 56 i ≤ 255) {M : zm_M} (hfr : frRd B M) (hB : rdB R0 M) (hk : 0 ≤ M 46 11 ∧ M 46 11 < 4) {a b d : Int} (hb : 0 ≤ b ∧ b ≤ 4) (hat : 0 ≤ M 46 16 ∧ M 46 16 ≤ 48) {x4 : Option zv_A} (hbad : ∀ M2, frRd B M2 → rdB R0 M2 → q M2) : zc_Z g mX11_readOne 142 [some (zv_r 46), some (zv_i a), some (zv_i b), some (zv_i d), x4] [] M (zq_V q) := by
  refine zr_aload_n (pc := 142) dX11_readOne_142 rfl rfl ?_
  refine zr_getR (pc := 143) fX11_28 lo_46 rfl rfl dX11_readOne_143 ?_
  refine zr_aload_n (pc := 146) dX11_readOne_146 rfl rfl ?_
  refine zr_getI (pc := 147) (z := 11) fX11_79 lo_46 rfl rfl rfl dX11_readOne_147 ?_
  refine zr_iload_n (pc := 150) dX11_readOne_150 rfl rfl ?_
  refine zr_iastore (pc := 151) lo_53 (by omega) dX11_readOne_151 ?_
  refine zr_aload_n (pc := 152) dX11_readOne_152 rfl rfl ?_
  refine zr_dup_r (pc := 153) dX11_readOne_153 ?_
  refine zr_getI (pc := 154) (z := 11) fX11_79 lo_46 rfl rfl rfl dX11_readOne_154 ?_
  rw [put_nk M (k := 53) (k2 := 46) _ _ _ (by decide)]
  refine zr_iconst (pc := 157) dX11_readOne_157 ?_
  refine zr_iadd (pc := 158) dX11_readOne_158 ?_
  refine zr_putI (pc := 159) (z := 11) fX11_79 lo_46 rfl fwX11_11 rfl rfl dX11_readOne_159 ?_
  exact zr_return (pc := 162) dX11_readOne_162 rfl (hbad _ ((hfr.put 53 _ _ (by omega)).put 46 _ _ (by omega)) ⟨by rw [put_ni _ _ (by decide), put_nk _ _ _ _ (by decide)]; exact hB.1, hB.2⟩)

set_option maxRecDepth 100000 in
set_option maxHeartbeats 4000000 in
theorem lp_X11_readOneA {g : zt_G} {B : zm_M} {q : zm_M → Prop} {R0 : Int × Rs} (hn : 0 ≤ B 46 15 ∧ B 46 15 ≤ 48) (hx : ∀ i, 0 ≤ i → i < B 46 15 → 0 ≤ B 56 i ∧ B 56 i ≤ 255) {M : zm_M} (hfr : frRd B M) (hB : rdB R0 M) (hk : 0 ≤ M 46 11 ∧ M 46 11 < 4) (hat : 0 ≤ M 46 16 ∧ M 46 16 ≤ 48) (hbad : ∀ M2, frRd B M2 → rdB R0 M2 → q M2) : zc_Z g mX11_readOne 47 [some (zv_r 46), some (zv_i 0), some (zv_i 0), some (zv_i 1), none] [] M (zq_V q) := by
  have e15 : M 46 15 = B 46 15 := hfr 46 15 (by omega) (by omega)
  have hB1 := hB.1
  have hB2 := hB.2
  refine zr_iload_n (pc := 47) dX11_readOne_47 rfl rfl ?_
  refine zi_if_eq (pc := 48) (tgt := 142) dX11_readOne_48 (by decide) (by decide) (fun h48 => ?_) (fun h48 => ?_)
  · exact absurd h48 (by decide)
  · refine zr_aload_n (pc := 51) dX11_readOne_51 rfl rfl ?_
    refine zr_bipush (pc := 52) dX11_readOne_52 (by decide) ?_
    refine zr_iconst (pc := 54) dX11_readOne_54 ?_
    refine zr_iload_n (pc := 55) dX11_readOne_55 rfl rfl ?_
    refine zr_inv3I (pc := 56) rfl sX11_95 lo_46 rfl rfl rfl dX11_readOne_56 ?_
    refine ct_X11_nextOf hat (by omega) (fun y => by rw [hfr 56 _ (by omega) (by omega)]; exact hx _ (by omega) (by omega)) (by omega) (by decide) (by decide) (by decide) (fun _ => ?_) (fun y => absurd y (by omega)) (fun y => absurd y (by omega))
    refine zr_istore (pc := 59) dX11_readOne_59 (Nat.le_of_ble_eq_true rfl) rfl ?_
    refine zr_aload_n (pc := 61) dX11_readOne_61 rfl rfl ?_
    refine zr_getR (pc := 62) fX11_31 lo_46 rfl rfl dX11_readOne_62 ?_
    refine zr_iconst (pc := 65) dX11_readOne_65 ?_
    refine zr_aload_n (pc := 66) dX11_readOne_66 rfl rfl ?_
    refine zr_getI (pc := 67) (z := 11) fX11_79 lo_46 rfl rfl rfl dX11_readOne_67 ?_
    refine zr_imul (pc := 70) dX11_readOne_70 ?_
    refine zr_iload_n (pc := 71) dX11_readOne_71 rfl rfl ?_
    refine zr_iadd (pc := 72) dX11_readOne_72 ?_
    refine zr_iload (pc := 73) dX11_readOne_73 rfl ?_
    refine zr_iastore (pc := 75) lo_54 (by omega) dX11_readOne_75 ?_
    refine zr_iload_n (pc := 76) dX11_readOne_76 rfl rfl ?_
    refine zr_iconst (pc := 77) dX11_readOne_77 ?_
    refine zr_iload (pc := 78) dX11_readOne_78 rfl ?_
    refine zr_ishl (pc := 80) dX11_readOne_80 ?_
    refine zr_ior (pc := 81) dX11_readOne_81 ?_
    refine zr_istore_n (pc := 82) dX11_readOne_82 rfl (Nat.le_of_ble_eq_true rfl) rfl ?_
    refine zr_iinc (pc := 83) dX11_readOne_83 rfl (Nat.le_of_ble_eq_true rfl) rfl ?_
    refine zr_aload_n (pc := 86) dX11_readOne_86 rfl rfl ?_
    refine zr_getI (pc := 87) (z := 17) fX11_69 lo_46 rfl rfl rfl dX11_readOne_87 ?_
    have e17 : zm_put M 54 (4 * M 46 11 + 0) 0 46 17 = M 46 17 := put_nk _ _ _ _ (by decide)
    refine zr_bipush (pc := 90) dX11_readOne_90 (by decide) ?_
    rw [e17]
    refine zi_icmp_ne (pc := 92) (tgt := 137) dX11_readOne_92 (by decide) (by omega) (by omega) (fun h92 => ?_) (fun h92 => ?_)
    · refine zr_iconst (pc := 137) dX11_readOne_137 ?_
      refine zr_istore_n (pc := 138) dX11_readOne_138 rfl (Nat.le_of_ble_eq_true rfl) rfl ?_
      refine zr_goto (pc := 139) (tgt := 47) dX11_readOne_139 (by decide) ?_
      refine zr_iload_n (pc := 47) dX11_readOne_47 rfl rfl ?_
      refine zi_if_eq (pc := 48) (tgt := 142) dX11_readOne_48 (by decide) (by decide) (fun h48 => ?_) (fun h48 => ?_)
      · exact lp_X11_readOneF (g := g) hn hx (hfr.put 54 _ _ (by omega)) ⟨by rw [put_nk _ _ _ _ (by decide)]; exact hB.1, hB.2⟩ (by rw [put_nk _ _ _ _ (by decide)]; exact hk) (by omega) (by rw [put_nk _ _ _ _ (by decide)]; exact hat) hbad
      · exact absurd h48 (by decide)
    · exact absurd h92 (by omega)

theorem tk4 {x tp : Int} {L : Ln} {C : Cm} (h : ¬ lyOk (x - 97) L) : tkS x (4, tp, L, C) = bgS x (4, tp, L, C) := by
  unfold tkS
  rw [if_neg (show ¬ (4 : Int) = 0 by decide), if_neg (show ¬ (4 : Int) = 2 by decide), if_neg (show ¬ (4 : Int) = 3 by decide), if_pos (show (4 : Int) = 4 from rfl), if_neg h]
theorem tk3 {x tp : Int} {L : Ln} {C : Cm} : tkS x (3, tp, L, C) = if lyOk (x - 97) L then some (4, tp, lAdL (x - 97) L, C) else none := by
  unfold tkS
  rw [if_neg (show ¬ (3 : Int) = 0 by decide), if_neg (show ¬ (3 : Int) = 2 by decide), if_pos (show (3 : Int) = 3 from rfl)]
theorem tk4y {x tp : Int} {L : Ln} {C : Cm} (h : lyOk (x - 97) L) : tkS x (4, tp, L, C) = some (4, tp, lAdL (x - 97) L, C) := by
  unfold tkS
  rw [if_neg (show ¬ (4 : Int) = 0 by decide), if_neg (show ¬ (4 : Int) = 2 by decide), if_neg (show ¬ (4 : Int) = 3 by decide), if_pos (show (4 : Int) = 4 from rfl), if_pos h]
theorem tk2 {x tp : Int} {L : Ln} {C : Cm} : tkS x (2, tp, L, C) = if (0 ≤ x - 48 ∧ x - 48 < 10) ∧ kiA L (x - 48) = -9 then some (3, tp, lAdK (x - 48) L, C) else none := by
  unfold tkS
  rw [if_neg (show ¬ (2 : Int) = 0 by decide), if_pos (show (2 : Int) = 2 from rfl)]
theorem tk5 {x tp : Int} {L : Ln} {C : Cm} : tkS x (5, tp, L, C) = if 0 ≤ x - 48 ∧ x - 48 < 10 then some (6, x - 48, L, C) else none := by
  unfold tkS
  rw [if_neg (show ¬ (5 : Int) = 0 by decide), if_neg (show ¬ (5 : Int) = 2 by decide), if_neg (show ¬ (5 : Int) = 3 by decide), if_neg (show ¬ (5 : Int) = 4 by decide), if_pos (show (5 : Int) = 5 from rfl)]
theorem tk6 {x tp : Int} {L : Ln} {C : Cm} : tkS x (6, tp, L, C) = if 0 ≤ x - 48 ∧ x - 48 < 4 then some (1, tp, L, cAdT tp (x - 48) C) else none := by
  unfold tkS
  rw [if_neg (show ¬ (6 : Int) = 0 by decide), if_neg (show ¬ (6 : Int) = 2 by decide), if_neg (show ¬ (6 : Int) = 3 by decide), if_neg (show ¬ (6 : Int) = 4 by decide), if_neg (show ¬ (6 : Int) = 5 by decide), if_pos (show (6 : Int) = 6 from rfl)]
theorem tk1 {x tp : Int} {L : Ln} {C : Cm} : tkS x (1, tp, L, C) = bgS x (1, tp, L, C) := by
  unfold tkS
  rw [if_neg (show ¬ (1 : Int) = 0 by decide), if_neg (show ¬ (1 : Int) = 2 by decide), if_neg (show ¬ (1 : Int) = 3 by decide), if_neg (show ¬ (1 : Int) = 4 by decide), if_neg (show ¬ (1 : Int) = 5 by decide), if_neg (show ¬ (1 : Int) = 6 by decide)]
theorem rdl_no {B M : zm_M} {R0 : Int × Rs} {tp n : Int} {L : Ln} {C : Cm} (hG : rdG B R0 (if n = 0 then 3 else 4) tp L C M) (hc : M 46 16 < B 46 15 → ¬ ((0 ≤ B 56 (M 46 16) - 97 ∧ B 56 (M 46 16) - 97 ≤ 5) ∧ ¬ bt (bitG L (L.1 - 1)) (B 56 (M 46 16) - 97) = true)) (hr : ¬ n = 0 → M 46 16 < B 46 15 ∧ 97 ≤ B 56 (M 46 16)) : R0.1 = M 46 16 := by
  obtain ⟨_, _, _, h4⟩ := hG
  by_cases hlt : M 46 16 < B 46 15
  · have hno : ¬ lyOk (B 56 (M 46 16) - 97) L := fun y => hc hlt ⟨⟨y.1.1, by have := y.1.2; omega⟩, fun z => y.2 (Or.inr z)⟩
    by_cases hn : n = 0
    · rw [if_pos hn] at h4
      exact rd_no hlt (by rw [tk3, if_neg hno]) h4
    · rw [if_neg hn] at h4
      exact rd_no hlt (by rw [tk4 hno, bgS_no (hr hn).2]) h4
  · have hn : n = 0 := by
      by_cases hn : n = 0
      · exact hn
      · exact absurd (hr hn).1 hlt
    rw [if_pos hn] at h4
    rw [rd_en (by omega) h4]
    rfl
theorem rdl_ok {tp n x : Int} {L : Ln} {C : Cm} (hd : L.2.2.1 (L.1 - 1) = n) (hn : n ≤ 3) (hx : 0 ≤ x - 97 ∧ x - 97 ≤ 5) (hb : ¬ bt (bitG L (L.1 - 1)) (x - 97) = true) : tkS x (if n = 0 then 3 else 4, tp, L, C) = some (4, tp, lAdL (x - 97) L, C) := by
  have hy : lyOk (x - 97) L := ⟨⟨hx.1, by omega⟩, fun y => by
    rcases y with y | y
    · omega
    · exact hb y⟩
  split
  · rw [tk3, if_pos hy]
  · rw [tk4y hy]
theorem vK_d {M : zm_M} {K n : Int} (hK : 0 ≤ K) : (vK M K n).2.2.1 ((vK M K n).1 - 1) = n := by
  rw [show (vK M K n).1 - 1 = K by show K + 1 - 1 = K; omega]
  show msk (K + 1) (upI (M 53) K n) K = n
  rw [msk_in hK (by omega), upI_s]
theorem vK_1 {M : zm_M} {K n : Int} : (vK M K n).1 - 1 = K := by
  show K + 1 - 1 = K
  omega
theorem bitG_ad {L : Ln} {a : Int} (hd : 0 ≤ L.2.2.1 (L.1 - 1)) : bitG (lAdL a L) (L.1 - 1) = zb_or (bitG L (L.1 - 1)) (zb_shl 1 a) := by
  unfold bitG
  have e1 : (lAdL a L).2.2.1 (L.1 - 1) = L.2.2.1 (L.1 - 1) + 1 := upI_s _ _ _
  rw [e1, fo_s hd]
  have e2 : (lAdL a L).2.2.2 (L.1 - 1) (L.2.2.1 (L.1 - 1)) = a := if_pos ⟨rfl, rfl⟩
  rw [e2]
  congr 1
  refine fo_c (fun i b h0 h1 => ?_)
  have e3 : (lAdL a L).2.2.2 (L.1 - 1) i = L.2.2.2 (L.1 - 1) i := if_neg (fun y => by have := y.2; omega)
  rw [e3]
set_option maxRecDepth 100000 in
set_option maxHeartbeats 4000000 in
theorem lp_X11_readOneG {g : zt_G} {B : zm_M} {q : zm_M → Prop} {R0 : Int × Rs} (hn : 0 ≤ B 46 15 ∧ B 46 15 ≤ 48) (hx : ∀ i, 0 ≤ i → i < B 46 15 → 0 ≤ B 56 i ∧ B 56 i ≤ 255) {A0 : Int} {M : zm_M} (hA0 : A0 ≤ M 46 16) (hfr : frRd B M) {K tp n : Int} (hK : M 46 11 = K) (hk : 0 ≤ K ∧ K < 4) (hb : 0 ≤ n ∧ n ≤ 4) (hG : rdG B R0 4 tp (vK M K n) (cvR M) M) (hP : PL (M 46 13) (vK M K n)) (hno : M 46 16 < B 46 15 → ¬ lyOk (B 56 (M 46 16) - 97) (vK M K n)) {a d : Int} {x4 : Option zv_A} (hgood : ∀ M2, frRd B M2 → A0 ≤ M2 46 16 → ∀ st tp, (st = 1 ∨ st = 4) → rdG B R0 st tp (lvR M2) (cvR M2) M2 → PL (M2 46 13) (lvR M2) → (M2 46 16 < B 46 15 → tkS (B 56 (M2 46 16)) (st, tp, lvR M2, cvR M2) = bgS (B 56 (M2 46 16)) (st, tp, lvR M2, cvR M2)) → q M2) : zc_Z g mX11_readOne 142 [some (zv_r 46), some (zv_i a), some (zv_i n), some (zv_i d), x4] [] M (zq_V q) := by
  refine zr_aload_n (pc := 142) dX11_readOne_142 rfl rfl ?_
  refine zr_getR (pc := 143) fX11_28 lo_46 rfl rfl dX11_readOne_143 ?_
  refine zr_aload_n (pc := 146) dX11_readOne_146 rfl rfl ?_
  refine zr_getI (pc := 147) (z := 11) fX11_79 lo_46 rfl rfl rfl dX11_readOne_147 ?_
  rw [hK]
  refine zr_iload_n (pc := 150) dX11_readOne_150 rfl rfl ?_
  refine zr_iastore (pc := 151) lo_53 (by omega) dX11_readOne_151 ?_
  refine zr_aload_n (pc := 152) dX11_readOne_152 rfl rfl ?_
  refine zr_dup_r (pc := 153) dX11_readOne_153 ?_
  refine zr_getI (pc := 154) (z := 11) fX11_79 lo_46 rfl rfl rfl dX11_readOne_154 ?_
  rw [put_nk M (k := 53) (k2 := 46) _ _ _ (by decide)]
  refine zr_iconst (pc := 157) dX11_readOne_157 ?_
  refine zr_iadd (pc := 158) dX11_readOne_158 ?_
  refine zr_putI (pc := 159) (z := 11) fX11_79 lo_46 rfl fwX11_11 rfl rfl dX11_readOne_159 ?_
  exact zr_return (pc := 162) dX11_readOne_162 rfl (by
      rw [hK]
      have e1 : lvR (zm_put (zm_put M 53 K n) 46 11 (K + 1)) = vK M K n := vK_end
      have e2 : cvR (zm_put (zm_put M 53 K n) 46 11 (K + 1)) = cvR M := cvR_fr (by rw [put_ni _ _ (by decide), put_nk _ _ _ _ (by decide)]) (fun i => by rw [put_nk _ _ _ _ (by decide), put_nk _ _ _ _ (by decide)])
      have e3 : ∀ j, j ≠ 11 → zm_put (zm_put M 53 K n) 46 11 (K + 1) 46 j = M 46 j := fun j hj => by rw [put_ni _ _ hj, put_nk _ _ _ _ (by decide)]
      refine hgood _ ((hfr.put 53 _ _ (by omega)).put 46 _ _ (by omega)) (by rw [e3 16 (by decide)]; exact hA0) 4 tp (Or.inr rfl) ?_ ?_ ?_
      · unfold rdG
        rw [e1, e2, e3 17 (by decide), e3 16 (by decide)]
        exact hG
      · rw [e1, e3 13 (by decide)]
        exact hP
      · rw [e1, e2, e3 16 (by decide)]
        exact fun y => tk4 (hno y))

set_option maxRecDepth 100000 in
set_option maxHeartbeats 4000000 in
theorem lp_X11_readOne {g : zt_G} {B : zm_M} {q : zm_M → Prop} {R0 : Int × Rs} (hn : 0 ≤ B 46 15 ∧ B 46 15 ≤ 48) (hx : ∀ i, 0 ≤ i → i < B 46 15 → 0 ≤ B 56 i ∧ B 56 i ≤ 255) {A0 K tp : Int} (hk : 0 ≤ K ∧ K < 4) (hbad : ∀ M2, frRd B M2 → rdB R0 M2 → q M2) (hgood : ∀ M2, frRd B M2 → A0 ≤ M2 46 16 → ∀ st tp, (st = 1 ∨ st = 4) → rdG B R0 st tp (lvR M2) (cvR M2) M2 → PL (M2 46 13) (lvR M2) → (M2 46 16 < B 46 15 → tkS (B 56 (M2 46 16)) (st, tp, lvR M2, cvR M2) = bgS (B 56 (M2 46 16)) (st, tp, lvR M2, cvR M2)) → q M2) : ∀ (nn : Nat) (a n : Int) (x4 : Option zv_A) (Mx : zm_M), (4 - n).toNat = nn → 0 ≤ n → n ≤ 3 → A0 ≤ Mx 46 16 → frRd B Mx → Mx 46 11 = K → rdG B R0 (if n = 0 then 3 else 4) tp (vK Mx K n) (cvR Mx) Mx → PL (Mx 46 13) (vK Mx K n) → a = bitG (vK Mx K n) K → (∀ g, 0 ≤ g → g < K → Mx 53 g ≤ 4) → (¬ n = 0 → Mx 46 16 < B 46 15 ∧ 97 ≤ B 56 (Mx 46 16) ∧ B 56 (Mx 46 16) ≤ 102) → zc_Z g mX11_readOne 47 [some (zv_r 46), some (zv_i a), some (zv_i n), some (zv_i 1), x4] [] Mx (zq_V q) := by
  intro nn
  induction nn using Nat.strongRecOn with
  | ind nn ih =>
    intro a n x4 Mx hnn h0 h1 hA0 hfr hK hG hP ha h53 hr
    have hK0 := hk.1
    have e15 : Mx 46 15 = B 46 15 := hfr 46 15 (by omega) (by omega)
    have hG2 := hG.2.1
    have hG1 := hG.1
    have e56 : Mx 56 (Mx 46 16) = B 56 (Mx 46 16) := hfr 56 _ (by omega) (by omega)
    have hai : 0 ≤ a ∧ a < 64 := by rw [ha]; exact bitG_in hG.2.2.1.2.1 _
    refine zr_iload_n (pc := 47) dX11_readOne_47 rfl rfl ?_
    refine zi_if_eq (pc := 48) (tgt := 142) dX11_readOne_48 (by decide) (by decide) (fun h48 => ?_) (fun h48 => ?_)
    · exact absurd h48 (by decide)
    · refine zr_aload_n (pc := 51) dX11_readOne_51 rfl rfl ?_
      refine zr_bipush (pc := 52) dX11_readOne_52 (by decide) ?_
      refine zr_iconst (pc := 54) dX11_readOne_54 ?_
      refine zr_iload_n (pc := 55) dX11_readOne_55 rfl rfl ?_
      refine zr_inv3I (pc := 56) rfl sX11_95 lo_46 rfl rfl rfl dX11_readOne_56 ?_
      refine ct_X11_nextOf (by omega) (by omega) (fun y => by rw [e56]; exact hx _ (by omega) (by omega)) (by omega) (by decide) (by decide) (by omega) (fun y => absurd hG1 y) (fun _ hb1 hb2 hb3 => ?_) (fun _ hc => ?_)
      · have hlt : Mx 46 16 < B 46 15 := by omega
        have htk := rdl_ok (tp := tp) (C := cvR Mx) (vK_d (M := Mx) (n := n) hK0) h1 (x := B 56 (Mx 46 16)) (by rw [← e56]; exact hb2) (by rw [vK_1, ← ha, ← e56]; exact hb3)
        have hW2 := RW_tk hG.2.2.1 htk
        have hR2 := rd_ok hlt htk hG.2.2.2
        rw [e56] at hb2 ⊢
        obtain ⟨v, ev⟩ : ∃ v, v = B 56 (Mx 46 16) - 97 := ⟨_, rfl⟩
        rw [← ev] at hb2 hW2 hR2 ⊢
        obtain ⟨M1, eM1⟩ : ∃ M1, M1 = zm_put Mx 46 16 (Mx 46 16 + 1) := ⟨_, rfl⟩
        rw [← eM1]
        have f1 : ∀ (k : Nat) (i : Int), (k ≠ 46 ∨ i ≠ 16) → M1 k i = Mx k i := fun k i a => by rw [eM1]; exact if_neg (by omega)
        have e1611 : M1 46 11 = K := by rw [f1 _ _ (by omega)]; exact hK
        have e1616 : M1 46 16 = Mx 46 16 + 1 := by rw [eM1, put_at]
        refine zr_istore (pc := 59) dX11_readOne_59 (Nat.le_of_ble_eq_true rfl) rfl ?_
        refine zr_aload_n (pc := 61) dX11_readOne_61 rfl rfl ?_
        refine zr_getR (pc := 62) fX11_31 lo_46 rfl rfl dX11_readOne_62 ?_
        refine zr_iconst (pc := 65) dX11_readOne_65 ?_
        refine zr_aload_n (pc := 66) dX11_readOne_66 rfl rfl ?_
        refine zr_getI (pc := 67) (z := 11) fX11_79 lo_46 rfl rfl rfl dX11_readOne_67 ?_
        rw [e1611]
        refine zr_imul (pc := 70) dX11_readOne_70 ?_
        refine zr_iload_n (pc := 71) dX11_readOne_71 rfl rfl ?_
        refine zr_iadd (pc := 72) dX11_readOne_72 ?_
        refine zr_iload (pc := 73) dX11_readOne_73 rfl ?_
        refine zr_iastore (pc := 75) lo_54 (by omega) dX11_readOne_75 ?_
        obtain ⟨M2, eM2⟩ : ∃ M2, M2 = zm_put M1 54 (4 * K + n) v := ⟨_, rfl⟩
        rw [← eM2]
        have f2 : ∀ (k : Nat) (i : Int), k ≠ 54 → M2 k i = M1 k i := fun k i a => by rw [eM2, put_nk _ _ _ _ a]
        have g16 : M2 46 16 = Mx 46 16 + 1 := by rw [f2 _ _ (by decide), e1616]
        have g17 : M2 46 17 = -9 := by rw [f2 _ _ (by decide), f1 _ _ (by omega)]; exact hG.1
        have g15 : M2 46 15 = B 46 15 := by rw [f2 _ _ (by decide), f1 _ _ (by omega)]; exact e15
        have g11 : M2 46 11 = K := by rw [f2 _ _ (by decide)]; exact e1611
        have g13 : M2 46 13 = Mx 46 13 := by rw [f2 _ _ (by decide), f1 _ _ (by omega)]
        have g56 : ∀ i, M2 56 i = B 56 i := fun i => by rw [f2 _ _ (by decide), f1 _ _ (by omega)]; exact hfr _ _ (by omega) (by omega)
        have gC : cvR M2 = cvR Mx := cvR_fr (by rw [f2 _ _ (by decide), f1 _ _ (by omega)]) (fun i => by rw [f2 _ _ (by decide), f1 _ _ (by omega)])
        have gL : vK M2 K (n + 1) = lAdL v (vK Mx K n) := by
          rw [eM2, vK_ad hK0 ⟨h0, by omega⟩ (fun g a b => by rw [f1 _ _ (by omega)]; exact h53 g a b), vK_fr (fun k i a b => f1 _ _ (by omega))]
        have gfr : frRd B M2 := by
          rw [eM2, eM1]
          exact (hfr.put 46 _ _ (by omega)).put 54 _ _ (by omega)
        have gG : rdG B R0 4 tp (vK M2 K (n + 1)) (cvR M2) M2 := by
          unfold rdG
          rw [gL, gC, g16]
          exact ⟨g17, by omega, hW2, hR2⟩
        have gP : PL (M2 46 13) (vK M2 K (n + 1)) := by
          rw [gL, g13]
          exact hP
        have ga : zb_or a (zb_shl 1 v) = bitG (vK M2 K (n + 1)) K := by
          have e9 := bitG_ad (L := vK Mx K n) (a := v) (by rw [vK_d hK0]; exact h0)
          rw [vK_1, ← ha] at e9
          rw [gL, e9]
        have g53 : ∀ g, 0 ≤ g → g < K → M2 53 g ≤ 4 := fun g a b => by rw [f2 _ _ (by decide), f1 _ _ (by omega)]; exact h53 g a b
        refine zr_iload_n (pc := 76) dX11_readOne_76 rfl rfl ?_
        refine zr_iconst (pc := 77) dX11_readOne_77 ?_
        refine zr_iload (pc := 78) dX11_readOne_78 rfl ?_
        refine zr_ishl (pc := 80) dX11_readOne_80 ?_
        refine zr_ior (pc := 81) dX11_readOne_81 ?_
        refine zr_istore_n (pc := 82) dX11_readOne_82 rfl (Nat.le_of_ble_eq_true rfl) rfl ?_
        refine zr_iinc (pc := 83) dX11_readOne_83 rfl (Nat.le_of_ble_eq_true rfl) rfl ?_
        refine zr_aload_n (pc := 86) dX11_readOne_86 rfl rfl ?_
        refine zr_getI (pc := 87) (z := 17) fX11_69 lo_46 rfl rfl rfl dX11_readOne_87 ?_
        refine zr_bipush (pc := 90) dX11_readOne_90 (by decide) ?_
        rw [g17]
        refine zi_icmp_ne (pc := 92) (tgt := 137) dX11_readOne_92 (by decide) (by omega) (by omega) (fun h92 => ?_) (fun h92 => ?_)
        · exact absurd rfl h92
        · refine zr_iload_n (pc := 95) dX11_readOne_95 rfl rfl ?_
          refine zr_iconst (pc := 96) dX11_readOne_96 ?_
          refine zi_icmp_ge (pc := 97) (tgt := 137) dX11_readOne_97 (by decide) (by omega) (by omega) (fun h97 => ?_) (fun h97 => ?_)
          · refine zr_iconst (pc := 137) dX11_readOne_137 ?_
            refine zr_istore_n (pc := 138) dX11_readOne_138 rfl (Nat.le_of_ble_eq_true rfl) rfl ?_
            refine zr_goto (pc := 139) (tgt := 47) dX11_readOne_139 (by decide) ?_
            refine zr_iload_n (pc := 47) dX11_readOne_47 rfl rfl ?_
            refine zi_if_eq (pc := 48) (tgt := 142) dX11_readOne_48 (by decide) (by decide) (fun h48 => ?_) (fun h48 => ?_)
            · exact lp_X11_readOneG (g := g) hn hx (by omega) gfr g11 hk (by omega) gG gP (fun y z => z.2 (Or.inl (by rw [vK_d hK0]; omega))) hgood
            · exact absurd h48 (by decide)
          · refine zr_aload_n (pc := 100) dX11_readOne_100 rfl rfl ?_
            refine zr_getI (pc := 101) (z := 16) fX11_72 lo_46 rfl rfl rfl dX11_readOne_101 ?_
            refine zr_aload_n (pc := 104) dX11_readOne_104 rfl rfl ?_
            refine zr_getI (pc := 105) (z := 15) fX11_65 lo_46 rfl rfl rfl dX11_readOne_105 ?_
            refine zi_icmp_ge (pc := 108) (tgt := 137) dX11_readOne_108 (by decide) (by omega) (by omega) (fun h108 => ?_) (fun h108 => ?_)
            · refine zr_iconst (pc := 137) dX11_readOne_137 ?_
              refine zr_istore_n (pc := 138) dX11_readOne_138 rfl (Nat.le_of_ble_eq_true rfl) rfl ?_
              refine zr_goto (pc := 139) (tgt := 47) dX11_readOne_139 (by decide) ?_
              refine zr_iload_n (pc := 47) dX11_readOne_47 rfl rfl ?_
              refine zi_if_eq (pc := 48) (tgt := 142) dX11_readOne_48 (by decide) (by decide) (fun h48 => ?_) (fun h48 => ?_)
              · exact lp_X11_readOneG (g := g) hn hx (by omega) gfr g11 hk (by omega) gG gP (fun y z => absurd y (by omega)) hgood
              · exact absurd h48 (by decide)
            · refine zr_aload_n (pc := 111) dX11_readOne_111 rfl rfl ?_
              refine zr_getR (pc := 112) fX11_37 lo_46 rfl rfl dX11_readOne_112 ?_
              refine zr_aload_n (pc := 115) dX11_readOne_115 rfl rfl ?_
              refine zr_getI (pc := 116) (z := 16) fX11_72 lo_46 rfl rfl rfl dX11_readOne_116 ?_
              refine zr_iaload (pc := 119) lo_56 (by omega) dX11_readOne_119 ?_
              refine zr_i2l (pc := 120) dX11_readOne_120 ?_
              refine zr_ldc2 (pc := 121) (z := 97) rfl kX11_99 (by decide +kernel) dX11_readOne_121 ?_
              refine zr_ldc2 (pc := 124) (z := 102) rfl kX11_101 (by decide +kernel) dX11_readOne_124 ?_
              refine zr_stat3I (pc := 127) rfl sX11_61 rfl rfl dX11_readOne_127 ?_
              rw [g56, g16]
              have hxx := hx (Mx 46 16 + 1) (by omega) (by omega)
              refine in_i (by omega) (by omega) (by omega) ?_
              refine zr_ifb_eq (pc := 130) (tgt := 137) dX11_readOne_130 (by decide) (fun h130 => ?_) (fun h130 => ?_)
              · refine zr_iconst (pc := 137) dX11_readOne_137 ?_
                refine zr_istore_n (pc := 138) dX11_readOne_138 rfl (Nat.le_of_ble_eq_true rfl) rfl ?_
                refine zr_goto (pc := 139) (tgt := 47) dX11_readOne_139 (by decide) ?_
                refine zr_iload_n (pc := 47) dX11_readOne_47 rfl rfl ?_
                refine zi_if_eq (pc := 48) (tgt := 142) dX11_readOne_48 (by decide) (by decide) (fun h48 => ?_) (fun h48 => ?_)
                · exact lp_X11_readOneG (g := g) hn hx (by omega) gfr g11 hk (by omega) gG gP (fun y z => h130 (by rw [g16] at z; omega)) hgood
                · exact absurd h48 (by decide)
              · refine zr_iconst (pc := 133) dX11_readOne_133 ?_
                refine zr_goto (pc := 134) (tgt := 138) dX11_readOne_134 (by decide) ?_
                refine zr_istore_n (pc := 138) dX11_readOne_138 rfl (Nat.le_of_ble_eq_true rfl) rfl ?_
                refine zr_goto (pc := 139) (tgt := 47) dX11_readOne_139 (by decide) ?_
                exact ih _ (by omega) _ _ _ _ rfl (by omega) (by omega) (by omega) gfr g11 (by rw [if_neg (by omega)]; exact gG) gP ga g53 (fun _ => by rw [g16]; omega)
      · have hR1 : R0.1 = Mx 46 16 := rdl_no hG (fun y z => hc (by omega) (by rw [e56]; rw [vK_1, ← ha] at z; exact z)) (fun y => ⟨(hr y).1, (hr y).2.1⟩)
        obtain ⟨M1, eM1⟩ : ∃ M1, M1 = zm_put Mx 46 17 (Mx 46 16) := ⟨_, rfl⟩
        rw [← eM1]
        have f1 : ∀ (k : Nat) (i : Int), (k ≠ 46 ∨ i ≠ 17) → M1 k i = Mx k i := fun k i a => by rw [eM1]; exact if_neg (by omega)
        have e1611 : M1 46 11 = K := by rw [f1 _ _ (by omega)]; exact hK
        refine zr_istore (pc := 59) dX11_readOne_59 (Nat.le_of_ble_eq_true rfl) rfl ?_
        refine zr_aload_n (pc := 61) dX11_readOne_61 rfl rfl ?_
        refine zr_getR (pc := 62) fX11_31 lo_46 rfl rfl dX11_readOne_62 ?_
        refine zr_iconst (pc := 65) dX11_readOne_65 ?_
        refine zr_aload_n (pc := 66) dX11_readOne_66 rfl rfl ?_
        refine zr_getI (pc := 67) (z := 11) fX11_79 lo_46 rfl rfl rfl dX11_readOne_67 ?_
        rw [e1611]
        refine zr_imul (pc := 70) dX11_readOne_70 ?_
        refine zr_iload_n (pc := 71) dX11_readOne_71 rfl rfl ?_
        refine zr_iadd (pc := 72) dX11_readOne_72 ?_
        refine zr_iload (pc := 73) dX11_readOne_73 rfl ?_
        refine zr_iastore (pc := 75) lo_54 (by omega) dX11_readOne_75 ?_
        obtain ⟨M2, eM2⟩ : ∃ M2, M2 = zm_put M1 54 (4 * K + n) 0 := ⟨_, rfl⟩
        rw [← eM2]
        have f2 : ∀ (k : Nat) (i : Int), k ≠ 54 → M2 k i = M1 k i := fun k i a => by rw [eM2, put_nk _ _ _ _ a]
        have g17 : M2 46 17 = Mx 46 16 := by rw [f2 _ _ (by decide), eM1, put_at]
        have g15 : M2 46 15 = B 46 15 := by rw [f2 _ _ (by decide), f1 _ _ (by omega)]; exact e15
        have g16 : M2 46 16 = Mx 46 16 := by rw [f2 _ _ (by decide), f1 _ _ (by omega)]
        have g11 : M2 46 11 = K := by rw [f2 _ _ (by decide)]; exact e1611
        have gfr : frRd B M2 := by
          rw [eM2, eM1]
          exact (hfr.put 46 _ _ (by omega)).put 54 _ _ (by omega)
        refine zr_iload_n (pc := 76) dX11_readOne_76 rfl rfl ?_
        refine zr_iconst (pc := 77) dX11_readOne_77 ?_
        refine zr_iload (pc := 78) dX11_readOne_78 rfl ?_
        refine zr_ishl (pc := 80) dX11_readOne_80 ?_
        refine zr_ior (pc := 81) dX11_readOne_81 ?_
        refine zr_istore_n (pc := 82) dX11_readOne_82 rfl (Nat.le_of_ble_eq_true rfl) rfl ?_
        refine zr_iinc (pc := 83) dX11_readOne_83 rfl (Nat.le_of_ble_eq_true rfl) rfl ?_
        refine zr_aload_n (pc := 86) dX11_readOne_86 rfl rfl ?_
        refine zr_getI (pc := 87) (z := 17) fX11_69 lo_46 rfl rfl rfl dX11_readOne_87 ?_
        refine zr_bipush (pc := 90) dX11_readOne_90 (by decide) ?_
        rw [g17]
        refine zi_icmp_ne (pc := 92) (tgt := 137) dX11_readOne_92 (by decide) (by omega) (by omega) (fun h92 => ?_) (fun h92 => ?_)
        · refine zr_iconst (pc := 137) dX11_readOne_137 ?_
          refine zr_istore_n (pc := 138) dX11_readOne_138 rfl (Nat.le_of_ble_eq_true rfl) rfl ?_
          refine zr_goto (pc := 139) (tgt := 47) dX11_readOne_139 (by decide) ?_
          refine zr_iload_n (pc := 47) dX11_readOne_47 rfl rfl ?_
          refine zi_if_eq (pc := 48) (tgt := 142) dX11_readOne_48 (by decide) (by decide) (fun h48 => ?_) (fun h48 => ?_)
          · exact lp_X11_readOneF (g := g) hn hx gfr ⟨by rw [g17, hR1], by omega⟩ (by rw [g11]; exact hk) (by omega) (by rw [g16]; omega) hbad
          · exact absurd h48 (by decide)
        · exact absurd h92 (by omega)

set_option maxRecDepth 100000 in
set_option maxHeartbeats 4000000 in
theorem ct_X11_readOne {g : zt_G} {B : zm_M} {q : zm_M → Prop} {R0 : Int × Rs} (hn : 0 ≤ B 46 15 ∧ B 46 15 ≤ 48) (hx : ∀ i, 0 ≤ i → i < B 46 15 → 0 ≤ B 56 i ∧ B 56 i ≤ 255) {A0 : Int} {tp : Int} {M : zm_M} (hfr : frRd B M) (hG : rdG B R0 2 tp (lvR M) (cvR M) M) (hP : PL (M 46 13) (lvR M)) (hA0 : A0 ≤ M 46 16) (hbad : ∀ M2, frRd B M2 → rdB R0 M2 → q M2) (hgood : ∀ M2, frRd B M2 → A0 ≤ M2 46 16 → ∀ st tp, (st = 1 ∨ st = 4) → rdG B R0 st tp (lvR M2) (cvR M2) M2 → PL (M2 46 13) (lvR M2) → (M2 46 16 < B 46 15 → tkS (B 56 (M2 46 16)) (st, tp, lvR M2, cvR M2) = bgS (B 56 (M2 46 16)) (st, tp, lvR M2, cvR M2)) → q M2) : zc_K g yX11_readOne mX11_readOne [zv_r 46] M (zq_V q) := by
  refine zc_of (ls := [some (zv_r 46), none, none, none, none]) (by decide) rfl ⟨rfl, rfl⟩ (Nat.le_of_ble_eq_true rfl) rfl ?_
  have e15 : M 46 15 = B 46 15 := hfr 46 15 (by omega) (by omega)
  have hG2 := hG.2.1
  have hG1 := hG.1
  have e56 : M 56 (M 46 16) = B 56 (M 46 16) := hfr 56 _ (by omega) (by omega)
  have hk : 0 ≤ M 46 11 ∧ M 46 11 < 4 := ⟨hG.2.2.1.2.1.1.1, hG.2.2.1.2.2.2.1 rfl⟩
  have hP1 := hP.1
  have h53 : ∀ g, 0 ≤ g → g < M 46 11 → M 53 g ≤ 4 := fun g a b => by
    have h9 := (hG.2.2.1.2.1.2.1 g).2.2
    rw [show (lvR M).2.2.1 g = M 53 g from msk_in a b] at h9
    exact h9
  refine zr_aload_n (pc := 0) dX11_readOne_0 rfl rfl ?_
  refine zr_getR (pc := 1) fX11_25 lo_46 rfl rfl dX11_readOne_1 ?_
  refine zr_aload_n (pc := 4) dX11_readOne_4 rfl rfl ?_
  refine zr_getI (pc := 5) (z := 11) fX11_79 lo_46 rfl rfl rfl dX11_readOne_5 ?_
  refine zr_aload_n (pc := 8) dX11_readOne_8 rfl rfl ?_
  refine zr_bipush (pc := 9) dX11_readOne_9 (by decide) ?_
  refine zr_bipush (pc := 11) dX11_readOne_11 (by decide) ?_
  refine zr_aload_n (pc := 13) dX11_readOne_13 rfl rfl ?_
  refine zr_getI (pc := 14) (z := 13) fX11_85 lo_46 rfl rfl rfl dX11_readOne_14 ?_
  refine zr_inv3I (pc := 17) rfl sX11_95 lo_46 rfl rfl rfl dX11_readOne_17 ?_
  refine ct_X11_nextOf (by omega) (by omega) (fun y => by rw [e56]; exact hx _ (by omega) (by omega)) (by omega) (by decide) (by decide) (by omega) (fun y => absurd hG1 y) (fun _ hb1 hb2 hb3 => ?_) (fun _ hc => ?_)
  · rw [e56] at hb2 hb3 ⊢
    have htk : tkS (B 56 (M 46 16)) (2, tp, lvR M, cvR M) = some (3, tp, lAdK (B 56 (M 46 16) - 48) (lvR M), cvR M) := by
      rw [tk2, if_pos ⟨by omega, by
        have h9 := hP.2 (B 56 (M 46 16) - 48) (by omega) (by omega)
        by_cases e9 : kiA (lvR M) (B 56 (M 46 16) - 48) = -9
        · exact e9
        · exact absurd (h9.mpr e9) hb3⟩]
    have hW2 := RW_tk hG.2.2.1 htk
    have hR2 := rd_ok (by omega) htk hG.2.2.2
    obtain ⟨v, ev⟩ : ∃ v, v = B 56 (M 46 16) - 48 := ⟨_, rfl⟩
    rw [← ev] at hb2 hW2 hR2 ⊢
    obtain ⟨M2, eM2⟩ : ∃ M2, M2 = zm_put (zm_put M 46 16 (M 46 16 + 1)) 52 (M 46 11) v := ⟨_, rfl⟩
    have f2 : ∀ (k : Nat) (i : Int), k ≠ 52 → (k ≠ 46 ∨ i ≠ 16) → M2 k i = M k i := fun k i a b => by rw [eM2, put_nk _ _ _ _ a]; exact if_neg (by omega)
    have g16 : M2 46 16 = M 46 16 + 1 := by rw [eM2, put_nk _ _ _ _ (by decide), put_at]
    refine zr_iastore (pc := 20) lo_52 (by omega) dX11_readOne_20 ?_
    rw [← eM2]
    have g11 : M2 46 11 = M 46 11 := f2 _ _ (by decide) (by omega)
    have g13 : M2 46 13 = M 46 13 := f2 _ _ (by decide) (by omega)
    have g52 : M2 52 (M 46 11) = v := by rw [eM2, put_at]
    refine zr_aload_n (pc := 21) dX11_readOne_21 rfl rfl ?_
    refine zr_dup_r (pc := 22) dX11_readOne_22 ?_
    refine zr_getI (pc := 23) (z := 13) fX11_85 lo_46 rfl rfl rfl dX11_readOne_23 ?_
    rw [g13]
    refine zr_iconst (pc := 26) dX11_readOne_26 ?_
    refine zr_aload_n (pc := 27) dX11_readOne_27 rfl rfl ?_
    refine zr_getR (pc := 28) fX11_25 lo_46 rfl rfl dX11_readOne_28 ?_
    refine zr_aload_n (pc := 31) dX11_readOne_31 rfl rfl ?_
    refine zr_getI (pc := 32) (z := 11) fX11_79 lo_46 rfl rfl rfl dX11_readOne_32 ?_
    rw [g11]
    refine zr_iaload (pc := 35) lo_52 (by omega) dX11_readOne_35 ?_
    rw [g52]
    refine zr_ishl (pc := 36) dX11_readOne_36 ?_
    refine zr_ior (pc := 37) dX11_readOne_37 ?_
    refine zr_putI (pc := 38) (z := 13) fX11_85 lo_46 rfl fwX11_13 rfl rfl dX11_readOne_38 ?_
    refine zr_iconst (pc := 41) dX11_readOne_41 ?_
    refine zr_istore_n (pc := 42) dX11_readOne_42 rfl (Nat.le_of_ble_eq_true rfl) rfl ?_
    refine zr_iconst (pc := 43) dX11_readOne_43 ?_
    refine zr_istore_n (pc := 44) dX11_readOne_44 rfl (Nat.le_of_ble_eq_true rfl) rfl ?_
    refine zr_iconst (pc := 45) dX11_readOne_45 ?_
    refine zr_istore_n (pc := 46) dX11_readOne_46 rfl (Nat.le_of_ble_eq_true rfl) rfl ?_
    refine lp_X11_readOne (g := g) (tp := tp) (A0 := A0) hn hx hk hbad hgood _ _ _ _ _ rfl (by decide) (by decide) (by rw [put_ni _ _ (by decide), g16]; omega) ?_ ?_ ?_ ?_ ?_ ?_ (fun y => absurd rfl y)
    · refine frRd.put ?_ 46 _ _ (by omega)
      rw [eM2]
      exact (hfr.put 46 _ _ (by omega)).put 52 _ _ (by omega)
    · rw [put_ni _ _ (by decide)]
      exact g11
    · have gL : vK (zm_put M2 46 13 (zb_or (M 46 13) (zb_shl 1 v))) (M 46 11) 0 = lAdK v (lvR M) := by
        rw [vK_fr (M := M2) (fun k i a b => put_nk _ _ _ _ (by omega)), eM2]
        have e9 := vK_st (M := zm_put M 46 16 (M 46 16 + 1)) (r := v) (by rw [put_ni _ _ (by decide)]; exact hk.1)
        rw [put_ni _ _ (by decide), lvR_fr (M := M) (put_ni _ _ (by decide)) (fun k i a b => put_nk _ _ _ _ (by omega))] at e9
        exact e9
      have gC : cvR (zm_put M2 46 13 (zb_or (M 46 13) (zb_shl 1 v))) = cvR M := cvR_fr (by rw [put_ni _ _ (by decide)]; exact f2 _ _ (by decide) (by omega)) (fun i => by rw [put_nk _ _ _ _ (by decide)]; exact f2 _ _ (by decide) (by omega))
      unfold rdG
      rw [gL, gC, if_pos rfl, put_ni _ _ (by decide), put_ni _ _ (by decide), g16]
      exact ⟨by rw [f2 _ _ (by decide) (by omega)]; exact hG1, by omega, hW2, hR2⟩
    · have gL : vK (zm_put M2 46 13 (zb_or (M 46 13) (zb_shl 1 v))) (M 46 11) 0 = lAdK v (lvR M) := by
        rw [vK_fr (M := M2) (fun k i a b => put_nk _ _ _ _ (by omega)), eM2]
        have e9 := vK_st (M := zm_put M 46 16 (M 46 16 + 1)) (r := v) (by rw [put_ni _ _ (by decide)]; exact hk.1)
        rw [put_ni _ _ (by decide), lvR_fr (M := M) (put_ni _ _ (by decide)) (fun k i a b => put_nk _ _ _ _ (by omega))] at e9
        exact e9
      rw [gL, put_at]
      exact PL_ad hP hk.1 (by omega)
    · rw [vK_b hk.1]
      rfl
    · intro g a b
      rw [put_nk _ _ _ _ (by decide), f2 _ _ (by decide) (by omega)]
      exact h53 g a b
  · have hR1 : R0.1 = M 46 16 := by
      by_cases hlt : M 46 16 < B 46 15
      · refine rd_no hlt ?_ hG.2.2.2
        rw [tk2, if_neg (fun y => hc (by omega) (by
          rw [e56]
          refine ⟨⟨y.1.1, by omega⟩, fun z => ?_⟩
          exact (hP.2 _ y.1.1 y.1.2).mp z y.2))]
      · rw [rd_en (by omega) hG.2.2.2]
        rfl
    obtain ⟨M2, eM2⟩ : ∃ M2, M2 = zm_put (zm_put M 46 17 (M 46 16)) 52 (M 46 11) 0 := ⟨_, rfl⟩
    have f2 : ∀ (k : Nat) (i : Int), k ≠ 52 → (k ≠ 46 ∨ i ≠ 17) → M2 k i = M k i := fun k i a b => by rw [eM2, put_nk _ _ _ _ a]; exact if_neg (by omega)
    have g17 : M2 46 17 = M 46 16 := by rw [eM2, put_nk _ _ _ _ (by decide), put_at]
    refine zr_iastore (pc := 20) lo_52 (by omega) dX11_readOne_20 ?_
    rw [← eM2]
    have g11 : M2 46 11 = M 46 11 := f2 _ _ (by decide) (by omega)
    have g13 : M2 46 13 = M 46 13 := f2 _ _ (by decide) (by omega)
    have g52 : M2 52 (M 46 11) = 0 := by rw [eM2, put_at]
    refine zr_aload_n (pc := 21) dX11_readOne_21 rfl rfl ?_
    refine zr_dup_r (pc := 22) dX11_readOne_22 ?_
    refine zr_getI (pc := 23) (z := 13) fX11_85 lo_46 rfl rfl rfl dX11_readOne_23 ?_
    rw [g13]
    refine zr_iconst (pc := 26) dX11_readOne_26 ?_
    refine zr_aload_n (pc := 27) dX11_readOne_27 rfl rfl ?_
    refine zr_getR (pc := 28) fX11_25 lo_46 rfl rfl dX11_readOne_28 ?_
    refine zr_aload_n (pc := 31) dX11_readOne_31 rfl rfl ?_
    refine zr_getI (pc := 32) (z := 11) fX11_79 lo_46 rfl rfl rfl dX11_readOne_32 ?_
    rw [g11]
    refine zr_iaload (pc := 35) lo_52 (by omega) dX11_readOne_35 ?_
    rw [g52]
    refine zr_ishl (pc := 36) dX11_readOne_36 ?_
    refine zr_ior (pc := 37) dX11_readOne_37 ?_
    refine zr_putI (pc := 38) (z := 13) fX11_85 lo_46 rfl fwX11_13 rfl rfl dX11_readOne_38 ?_
    refine zr_iconst (pc := 41) dX11_readOne_41 ?_
    refine zr_istore_n (pc := 42) dX11_readOne_42 rfl (Nat.le_of_ble_eq_true rfl) rfl ?_
    refine zr_iconst (pc := 43) dX11_readOne_43 ?_
    refine zr_istore_n (pc := 44) dX11_readOne_44 rfl (Nat.le_of_ble_eq_true rfl) rfl ?_
    refine zr_iconst (pc := 45) dX11_readOne_45 ?_
    refine zr_istore_n (pc := 46) dX11_readOne_46 rfl (Nat.le_of_ble_eq_true rfl) rfl ?_
    refine lp_X11_readOneA (g := g) hn hx ?_ ⟨?_, by omega⟩ ?_ ?_ hbad
    · refine frRd.put ?_ 46 _ _ (by omega)
      rw [eM2]
      exact (hfr.put 46 _ _ (by omega)).put 52 _ _ (by omega)
    · rw [put_ni _ _ (by decide), g17, hR1]
    · rw [put_ni _ _ (by decide), g11]
      exact hk
    · rw [put_ni _ _ (by decide), f2 _ _ (by decide) (by omega)]
      omega

theorem bgS_s {x : Int} {S : Rs} : bgS x S = if x = 71 ∧ S.2.2.1.1 < 4 then some (2, S.2) else if x = 73 ∧ ct S.2.2.2 < 4 then some (5, S.2) else none := rfl
theorem bt0 (v : Int) : ¬ bt 0 v = true := by
  rw [bt_tb]
  simp
set_option maxRecDepth 100000 in
set_option maxHeartbeats 4000000 in
theorem ct_X11_readPart {g : zt_G} {B : zm_M} {q : zm_M → Prop} {R0 : Int × Rs} (hn : 0 ≤ B 46 15 ∧ B 46 15 ≤ 48) (hx : ∀ i, 0 ≤ i → i < B 46 15 → 0 ≤ B 56 i ∧ B 56 i ≤ 255) {A0 st tp : Int} {M : zm_M} (hfr : frRd B M) (hst : st = 1 ∨ st = 4) (hG : rdG B R0 st tp (lvR M) (cvR M) M) (hP : PL (M 46 13) (lvR M)) (hlt : M 46 16 < B 46 15) (htk : tkS (B 56 (M 46 16)) (st, tp, lvR M, cvR M) = bgS (B 56 (M 46 16)) (st, tp, lvR M, cvR M)) (hA0 : A0 ≤ M 46 16 + 1) (hbad : ∀ M2, frRd B M2 → rdB R0 M2 → q M2) (hgood : ∀ M2, frRd B M2 → A0 ≤ M2 46 16 → ∀ st tp, (st = 1 ∨ st = 4) → rdG B R0 st tp (lvR M2) (cvR M2) M2 → PL (M2 46 13) (lvR M2) → (M2 46 16 < B 46 15 → tkS (B 56 (M2 46 16)) (st, tp, lvR M2, cvR M2) = bgS (B 56 (M2 46 16)) (st, tp, lvR M2, cvR M2)) → q M2) : zc_K g yX11_readPart mX11_readPart [zv_r 46, zv_i (B 56 (M 46 16))] M (zq_V q) := by
  refine zc_of (ls := [some (zv_r 46), some (zv_i (B 56 (M 46 16)))]) (by decide) rfl ⟨rfl, rfl⟩ (Nat.le_of_ble_eq_true rfl) rfl ?_
  have e15 : M 46 15 = B 46 15 := hfr 46 15 (by omega) (by omega)
  have hG2 := hG.2.1
  have hG1 := hG.1
  have hxx := hx (M 46 16) (by omega) hlt
  have hLk : 0 ≤ M 46 11 ∧ M 46 11 ≤ 4 := hG.2.2.1.2.1.1
  have hCt : 0 ≤ M 46 12 ∧ M 46 12 ≤ 4 := hG.2.2.1.2.2.1.1
  rw [bgS_s] at htk
  obtain ⟨M1, eM1⟩ : ∃ M1, M1 = zm_put M 46 16 (M 46 16 + 1) := ⟨_, rfl⟩
  have f1 : ∀ (k : Nat) (i : Int), (k ≠ 46 ∨ i ≠ 16) → M1 k i = M k i := fun k i a => by rw [eM1]; exact if_neg (by omega)
  have g1 : M1 46 16 = M 46 16 + 1 := by rw [eM1, put_at]
  have gfr1 : frRd B M1 := by rw [eM1]; exact hfr.put 46 _ _ (by omega)
  have gL1 : lvR M1 = lvR M := lvR_fr (f1 _ _ (by omega)) (fun k i a b => f1 _ _ (by omega))
  have gC1 : cvR M1 = cvR M := cvR_fr (f1 _ _ (by omega)) (fun i => f1 _ _ (by omega))
  have g12 : M1 46 12 = M 46 12 := f1 _ _ (by omega)
  have g15 : M1 46 15 = B 46 15 := by rw [f1 _ _ (by omega)]; exact e15
  have g17 : M1 46 17 = -9 := by rw [f1 _ _ (by omega)]; exact hG1
  have g56 : ∀ i, M1 56 i = B 56 i := fun i => gfr1 56 i (by omega) (by omega)
  refine zr_iload_n (pc := 0) dX11_readPart_0 rfl rfl ?_
  refine zr_bipush (pc := 1) dX11_readPart_1 (by decide) ?_
  refine zi_icmp_ne (pc := 3) (tgt := 31) dX11_readPart_3 (by decide) (by omega) (by omega) (fun h3 => ?_) (fun h3 => ?_)
  · refine zr_iload_n (pc := 31) dX11_readPart_31 rfl rfl ?_
    refine zr_bipush (pc := 32) dX11_readPart_32 (by decide) ?_
    refine zi_icmp_ne (pc := 34) (tgt := 109) dX11_readPart_34 (by decide) (by omega) (by omega) (fun h34 => ?_) (fun h34 => ?_)
    · refine zr_aload_n (pc := 109) dX11_readPart_109 rfl rfl ?_
      refine zr_aload_n (pc := 110) dX11_readPart_110 rfl rfl ?_
      refine zr_getI (pc := 111) (z := 16) fX11_72 lo_46 rfl rfl rfl dX11_readPart_111 ?_
      refine zr_putI (pc := 114) (z := 17) fX11_69 lo_46 rfl fwX11_17 rfl rfl dX11_readPart_114 ?_
      exact zr_return (pc := 117) dX11_readPart_117 rfl (hbad _ (hfr.put 46 _ _ (by omega)) (by
          have hR1 : R0.1 = M 46 16 := rd_no hlt (by rw [htk, if_neg (fun y => h3 y.1), if_neg (fun y => h34 y.1)]) hG.2.2.2
          exact ⟨by rw [put_at, hR1], by omega⟩))
    · refine zr_aload_n (pc := 37) dX11_readPart_37 rfl rfl ?_
      refine zr_getI (pc := 38) (z := 12) fX11_82 lo_46 rfl rfl rfl dX11_readPart_38 ?_
      refine zr_iconst (pc := 41) dX11_readPart_41 ?_
      refine zi_icmp_ge (pc := 42) (tgt := 109) dX11_readPart_42 (by decide) (by omega) (by omega) (fun h42 => ?_) (fun h42 => ?_)
      · refine zr_aload_n (pc := 109) dX11_readPart_109 rfl rfl ?_
        refine zr_aload_n (pc := 110) dX11_readPart_110 rfl rfl ?_
        refine zr_getI (pc := 111) (z := 16) fX11_72 lo_46 rfl rfl rfl dX11_readPart_111 ?_
        refine zr_putI (pc := 114) (z := 17) fX11_69 lo_46 rfl fwX11_17 rfl rfl dX11_readPart_114 ?_
        exact zr_return (pc := 117) dX11_readPart_117 rfl (hbad _ (hfr.put 46 _ _ (by omega)) (by
            have hR1 : R0.1 = M 46 16 := rd_no hlt (by rw [htk, if_neg (fun y => h3 y.1), if_neg (fun y => by have : M 46 12 < 4 := y.2; omega)]) hG.2.2.2
            exact ⟨by rw [put_at, hR1], by omega⟩))
      · refine zr_aload_n (pc := 45) dX11_readPart_45 rfl rfl ?_
        refine zr_dup_r (pc := 46) dX11_readPart_46 ?_
        refine zr_getI (pc := 47) (z := 16) fX11_72 lo_46 rfl rfl rfl dX11_readPart_47 ?_
        refine zr_iconst (pc := 50) dX11_readPart_50 ?_
        refine zr_iadd (pc := 51) dX11_readPart_51 ?_
        refine zr_putI (pc := 52) (z := 16) fX11_72 lo_46 rfl fwX11_16 rfl rfl dX11_readPart_52 ?_
        refine zr_aload_n (pc := 55) dX11_readPart_55 rfl rfl ?_
        refine zr_getR (pc := 56) fX11_34 lo_46 rfl rfl dX11_readPart_56 ?_
        refine zr_iconst (pc := 59) dX11_readPart_59 ?_
        refine zr_aload_n (pc := 60) dX11_readPart_60 rfl rfl ?_
        refine zr_getI (pc := 61) (z := 12) fX11_82 lo_46 rfl rfl rfl dX11_readPart_61 ?_
        rw [← eM1, g12]
        refine zr_imul (pc := 64) dX11_readPart_64 ?_
        refine zr_aload_n (pc := 65) dX11_readPart_65 rfl rfl ?_
        refine zr_bipush (pc := 66) dX11_readPart_66 (by decide) ?_
        refine zr_bipush (pc := 68) dX11_readPart_68 (by decide) ?_
        refine zr_iconst (pc := 70) dX11_readPart_70 ?_
        refine zr_inv3I (pc := 71) rfl sX11_95 lo_46 rfl rfl rfl dX11_readPart_71 ?_
        have htk2 : tkS (B 56 (M 46 16)) (st, tp, lvR M, cvR M) = some (5, tp, lvR M, cvR M) := by rw [htk, if_neg (fun y => by omega), if_pos ⟨h34, h42⟩]
        have hW5 := RW_tk hG.2.2.1 htk2
        have hR5 := rd_ok hlt htk2 hG.2.2.2
        refine ct_X11_nextOf (by omega) (by omega) (fun y => by rw [g56]; exact hx _ (by omega) (by omega)) (by omega) (by decide) (by decide) (by decide) (fun y => absurd g17 y) (fun _ hb1 hb2 _ => ?_) (fun _ hc => ?_)
        · rw [g1] at hb1
          rw [g56, g1] at hb2
          rw [g56, g1]
          have htk6 : tkS (B 56 (M 46 16 + 1)) (5, tp, lvR M, cvR M) = some (6, B 56 (M 46 16 + 1) - 48, lvR M, cvR M) := by rw [tk5, if_pos (by omega)]
          have hW6 := RW_tk hW5 htk6
          have hR6 := rd_ok (by omega) htk6 hR5
          obtain ⟨v, ev⟩ : ∃ v, v = B 56 (M 46 16 + 1) - 48 := ⟨_, rfl⟩
          rw [← ev] at hb2 hW6 hR6 ⊢
          obtain ⟨M3, eM3⟩ : ∃ M3, M3 = zm_put (zm_put M1 46 16 (M 46 16 + 1 + 1)) 55 (2 * M 46 12) v := ⟨_, rfl⟩
          have f3 : ∀ (k : Nat) (i : Int), k ≠ 55 → (k ≠ 46 ∨ i ≠ 16) → M3 k i = M k i := fun k i a b => by rw [eM3, put_nk _ _ _ _ a, show zm_put _ 46 16 _ k i = M1 k i from if_neg (by omega)]; exact f1 _ _ b
          have k16 : M3 46 16 = M 46 16 + 1 + 1 := by rw [eM3, put_nk _ _ _ _ (by decide), put_at]
          have k17 : M3 46 17 = -9 := by rw [f3 _ _ (by decide) (by omega)]; exact hG1
          have gfr3 : frRd B M3 := by rw [eM3]; exact (gfr1.put 46 _ _ (by omega)).put 55 _ _ (by omega)
          refine zr_iastore (pc := 74) lo_55 (by omega) dX11_readPart_74 ?_
          rw [← eM3]
          refine zr_aload_n (pc := 75) dX11_readPart_75 rfl rfl ?_
          refine zr_getR (pc := 76) fX11_34 lo_46 rfl rfl dX11_readPart_76 ?_
          refine zr_iconst (pc := 79) dX11_readPart_79 ?_
          refine zr_aload_n (pc := 80) dX11_readPart_80 rfl rfl ?_
          refine zr_getI (pc := 81) (z := 12) fX11_82 lo_46 rfl rfl rfl dX11_readPart_81 ?_
          have k12 : M3 46 12 = M 46 12 := by rw [f3 _ _ (by decide) (by omega)]
          rw [k12]
          refine zr_imul (pc := 84) dX11_readPart_84 ?_
          refine zr_iconst (pc := 85) dX11_readPart_85 ?_
          refine zr_iadd (pc := 86) dX11_readPart_86 ?_
          refine zr_aload_n (pc := 87) dX11_readPart_87 rfl rfl ?_
          refine zr_bipush (pc := 88) dX11_readPart_88 (by decide) ?_
          refine zr_iconst (pc := 90) dX11_readPart_90 ?_
          refine zr_iconst (pc := 91) dX11_readPart_91 ?_
          refine zr_inv3I (pc := 92) rfl sX11_95 lo_46 rfl rfl rfl dX11_readPart_92 ?_
          have k15 : M3 46 15 = B 46 15 := by rw [f3 _ _ (by decide) (by omega), e15]
          have k56 : ∀ i, M3 56 i = B 56 i := fun i => gfr3 56 i (by omega) (by omega)
          refine ct_X11_nextOf (by omega) (by omega) (fun y => by rw [k56]; exact hx _ (by omega) (by omega)) (by omega) (by decide) (by decide) (by decide) (fun y => absurd k17 y) (fun _ hd1 hd2 _ => ?_) (fun _ hd => ?_)
          · rw [k56, k16] at hd2
            rw [k56, k16]
            have htk7 : tkS (B 56 (M 46 16 + 1 + 1)) (6, v, lvR M, cvR M) = some (1, v, lvR M, cAdT v (B 56 (M 46 16 + 1 + 1) - 48) (cvR M)) := by rw [tk6, if_pos (by omega)]
            have hW7 := RW_tk hW6 htk7
            have hR7 := rd_ok (by omega) htk7 hR6
            refine zr_iastore (pc := 95) lo_55 (by omega) dX11_readPart_95 ?_
            refine zr_aload_n (pc := 96) dX11_readPart_96 rfl rfl ?_
            refine zr_dup_r (pc := 97) dX11_readPart_97 ?_
            refine zr_getI (pc := 98) (z := 12) fX11_82 lo_46 rfl rfl rfl dX11_readPart_98 ?_
            rw [put_nk _ (k := 55) (k2 := 46) _ _ _ (by decide), put_ni M3 (k2 := 46) (j := 12) _ (by decide), k12]
            refine zr_iconst (pc := 101) dX11_readPart_101 ?_
            refine zr_iadd (pc := 102) dX11_readPart_102 ?_
            refine zr_putI (pc := 103) (z := 12) fX11_82 lo_46 rfl fwX11_12 rfl rfl dX11_readPart_103 ?_
            refine zr_goto (pc := 106) (tgt := 117) dX11_readPart_106 (by decide) ?_
            exact zr_return (pc := 117) dX11_readPart_117 rfl (by
                obtain ⟨y, hy⟩ : ∃ y, y = B 56 (M 46 16 + 1 + 1) - 48 := ⟨_, rfl⟩
                rw [← hy] at hW7 hR7 ⊢
                obtain ⟨M5, eM5⟩ : ∃ M5, M5 = zm_put (zm_put (zm_put M3 46 16 (M 46 16 + 1 + 1 + 1)) 55 (2 * M 46 12 + 1) y) 46 12 (M 46 12 + 1) := ⟨_, rfl⟩
                rw [← eM5]
                have f5 : ∀ (k : Nat) (i : Int), k ≠ 55 → (k ≠ 46 ∨ (i ≠ 16 ∧ i ≠ 12)) → M5 k i = M k i := fun k i a b => by
                  rw [eM5, show zm_put _ 46 12 _ k i = _ from if_neg (by omega), put_nk _ _ _ _ a, show zm_put _ 46 16 _ k i = _ from if_neg (by omega)]
                  exact f3 k i a (by omega)
                have j16 : M5 46 16 = M 46 16 + 1 + 1 + 1 := by rw [eM5, put_ni _ _ (by decide), put_nk _ _ _ _ (by decide), put_at]
                have j12 : M5 46 12 = M 46 12 + 1 := by rw [eM5, put_at]
                have jL : lvR M5 = lvR M := lvR_fr (f5 _ _ (by decide) (by omega)) (fun k i a b => f5 _ _ (by omega) (by omega))
                have jC : cvR M5 = cAdT v y (cvR M) := by
                  rw [← cvR_ad hCt.1]
                  refine cvR_fr (by rw [j12, put_at]) (fun i => ?_)
                  rw [eM5, put_nk _ _ _ _ (show 55 ≠ 46 by decide), put_nk _ _ _ _ (show 55 ≠ 46 by decide)]
                  by_cases hi : i = 2 * M 46 12 + 1
                  · rw [hi, put_at, put_at]
                  · rw [put_ni _ _ hi, put_ni _ _ hi, put_nk _ _ _ _ (show 55 ≠ 46 by decide), eM3]
                    by_cases hi2 : i = 2 * M 46 12
                    · rw [hi2, put_at, put_at]
                    · rw [put_ni _ _ hi2, put_ni _ _ hi2, put_nk _ _ _ _ (show 55 ≠ 46 by decide)]
                      exact f1 _ _ (by omega)
                refine hgood M5 ?_ (by omega) 1 v (Or.inl rfl) ?_ ?_ (fun _ => tk1)
                · rw [eM5]
                  exact ((gfr3.put 46 _ _ (by omega)).put 55 _ _ (by omega)).put 46 _ _ (by omega)
                · unfold rdG
                  rw [jL, jC, j16]
                  exact ⟨by rw [f5 _ _ (by decide) (by omega)]; exact hG1, by omega, hW7, hR7⟩
                · rw [jL, f5 _ _ (by decide) (by omega)]
                  exact hP)
          · have hR1 : R0.1 = M 46 16 + 1 + 1 := by
              by_cases hl2 : M 46 16 + 1 + 1 < B 46 15
              · refine rd_no hl2 ?_ hR6
                rw [tk6, if_neg (fun y => hd (by omega) (by
                  rw [k56, k16]
                  exact ⟨⟨y.1, by omega⟩, bt0 _⟩))]
              · rw [rd_en (by omega) hR6]
                rfl
            rw [k16]
            refine zr_iastore (pc := 95) lo_55 (by omega) dX11_readPart_95 ?_
            refine zr_aload_n (pc := 96) dX11_readPart_96 rfl rfl ?_
            refine zr_dup_r (pc := 97) dX11_readPart_97 ?_
            refine zr_getI (pc := 98) (z := 12) fX11_82 lo_46 rfl rfl rfl dX11_readPart_98 ?_
            rw [put_nk _ (k := 55) (k2 := 46) _ _ _ (by decide), put_ni M3 (k2 := 46) (j := 12) _ (by decide), k12]
            refine zr_iconst (pc := 101) dX11_readPart_101 ?_
            refine zr_iadd (pc := 102) dX11_readPart_102 ?_
            refine zr_putI (pc := 103) (z := 12) fX11_82 lo_46 rfl fwX11_12 rfl rfl dX11_readPart_103 ?_
            refine zr_goto (pc := 106) (tgt := 117) dX11_readPart_106 (by decide) ?_
            exact zr_return (pc := 117) dX11_readPart_117 rfl (hbad _ (((gfr3.put 46 _ _ (by omega)).put 55 _ _ (by omega)).put 46 _ _ (by omega)) ⟨by rw [put_ni _ _ (by decide), put_nk _ _ _ _ (by decide), put_at, hR1], by omega⟩)
        · have hR1 : R0.1 = M 46 16 + 1 := by
            by_cases hl2 : M 46 16 + 1 < B 46 15
            · refine rd_no hl2 ?_ hR5
              rw [tk5, if_neg (fun y => hc (by omega) (by
                rw [g56, g1]
                exact ⟨⟨y.1, by omega⟩, bt0 _⟩))]
            · rw [rd_en (by omega) hR5]
              rfl
          rw [g1]
          obtain ⟨M3, eM3⟩ : ∃ M3, M3 = zm_put (zm_put M1 46 17 (M 46 16 + 1)) 55 (2 * M 46 12) 0 := ⟨_, rfl⟩
          have f3 : ∀ (k : Nat) (i : Int), k ≠ 55 → (k ≠ 46 ∨ i ≠ 17) → M3 k i = M1 k i := fun k i a b => by rw [eM3, put_nk _ _ _ _ a]; exact if_neg (by omega)
          have k17 : M3 46 17 = M 46 16 + 1 := by rw [eM3, put_nk _ _ _ _ (by decide), put_at]
          have gfr3 : frRd B M3 := by rw [eM3]; exact (gfr1.put 46 _ _ (by omega)).put 55 _ _ (by omega)
          refine zr_iastore (pc := 74) lo_55 (by omega) dX11_readPart_74 ?_
          rw [← eM3]
          refine zr_aload_n (pc := 75) dX11_readPart_75 rfl rfl ?_
          refine zr_getR (pc := 76) fX11_34 lo_46 rfl rfl dX11_readPart_76 ?_
          refine zr_iconst (pc := 79) dX11_readPart_79 ?_
          refine zr_aload_n (pc := 80) dX11_readPart_80 rfl rfl ?_
          refine zr_getI (pc := 81) (z := 12) fX11_82 lo_46 rfl rfl rfl dX11_readPart_81 ?_
          have k12 : M3 46 12 = M 46 12 := by rw [f3 _ _ (by decide) (by omega), g12]
          rw [k12]
          refine zr_imul (pc := 84) dX11_readPart_84 ?_
          refine zr_iconst (pc := 85) dX11_readPart_85 ?_
          refine zr_iadd (pc := 86) dX11_readPart_86 ?_
          refine zr_aload_n (pc := 87) dX11_readPart_87 rfl rfl ?_
          refine zr_bipush (pc := 88) dX11_readPart_88 (by decide) ?_
          refine zr_iconst (pc := 90) dX11_readPart_90 ?_
          refine zr_iconst (pc := 91) dX11_readPart_91 ?_
          refine zr_inv3I (pc := 92) rfl sX11_95 lo_46 rfl rfl rfl dX11_readPart_92 ?_
          have k16 : M3 46 16 = M 46 16 + 1 := by rw [f3 _ _ (by decide) (by omega), g1]
          have k15 : M3 46 15 = B 46 15 := by rw [f3 _ _ (by decide) (by omega), g15]
          refine ct_X11_nextOf (by omega) (by omega) (fun y => by rw [gfr3 56 _ (by omega) (by omega)]; exact hx _ (by omega) (by omega)) (by omega) (by decide) (by decide) (by decide) (fun _ => ?_) (fun y => absurd y (by omega)) (fun y => absurd y (by omega))
          refine zr_iastore (pc := 95) lo_55 (by omega) dX11_readPart_95 ?_
          refine zr_aload_n (pc := 96) dX11_readPart_96 rfl rfl ?_
          refine zr_dup_r (pc := 97) dX11_readPart_97 ?_
          refine zr_getI (pc := 98) (z := 12) fX11_82 lo_46 rfl rfl rfl dX11_readPart_98 ?_
          rw [put_nk _ (k := 55) (k2 := 46) _ _ _ (by decide), k12]
          refine zr_iconst (pc := 101) dX11_readPart_101 ?_
          refine zr_iadd (pc := 102) dX11_readPart_102 ?_
          refine zr_putI (pc := 103) (z := 12) fX11_82 lo_46 rfl fwX11_12 rfl rfl dX11_readPart_103 ?_
          refine zr_goto (pc := 106) (tgt := 117) dX11_readPart_106 (by decide) ?_
          exact zr_return (pc := 117) dX11_readPart_117 rfl (hbad _ ((gfr3.put 55 _ _ (by omega)).put 46 _ _ (by omega)) ⟨by rw [put_ni _ _ (by decide), put_nk _ _ _ _ (by decide), k17, hR1], by omega⟩)
  · refine zr_aload_n (pc := 6) dX11_readPart_6 rfl rfl ?_
    refine zr_getI (pc := 7) (z := 11) fX11_79 lo_46 rfl rfl rfl dX11_readPart_7 ?_
    refine zr_iconst (pc := 10) dX11_readPart_10 ?_
    refine zi_icmp_ge (pc := 11) (tgt := 31) dX11_readPart_11 (by decide) (by omega) (by omega) (fun h11 => ?_) (fun h11 => ?_)
    · refine zr_iload_n (pc := 31) dX11_readPart_31 rfl rfl ?_
      refine zr_bipush (pc := 32) dX11_readPart_32 (by decide) ?_
      refine zi_icmp_ne (pc := 34) (tgt := 109) dX11_readPart_34 (by decide) (by omega) (by omega) (fun h34 => ?_) (fun h34 => ?_)
      · refine zr_aload_n (pc := 109) dX11_readPart_109 rfl rfl ?_
        refine zr_aload_n (pc := 110) dX11_readPart_110 rfl rfl ?_
        refine zr_getI (pc := 111) (z := 16) fX11_72 lo_46 rfl rfl rfl dX11_readPart_111 ?_
        refine zr_putI (pc := 114) (z := 17) fX11_69 lo_46 rfl fwX11_17 rfl rfl dX11_readPart_114 ?_
        exact zr_return (pc := 117) dX11_readPart_117 rfl (hbad _ (hfr.put 46 _ _ (by omega)) (by
            have hR1 : R0.1 = M 46 16 := rd_no hlt (by rw [htk, if_neg (fun y => by have : M 46 11 < 4 := y.2; omega), if_neg (fun y => h34 y.1)]) hG.2.2.2
            exact ⟨by rw [put_at, hR1], by omega⟩))
      · refine zr_aload_n (pc := 37) dX11_readPart_37 rfl rfl ?_
        refine zr_getI (pc := 38) (z := 12) fX11_82 lo_46 rfl rfl rfl dX11_readPart_38 ?_
        refine zr_iconst (pc := 41) dX11_readPart_41 ?_
        refine zi_icmp_ge (pc := 42) (tgt := 109) dX11_readPart_42 (by decide) (by omega) (by omega) (fun h42 => ?_) (fun h42 => ?_)
        · refine zr_aload_n (pc := 109) dX11_readPart_109 rfl rfl ?_
          refine zr_aload_n (pc := 110) dX11_readPart_110 rfl rfl ?_
          refine zr_getI (pc := 111) (z := 16) fX11_72 lo_46 rfl rfl rfl dX11_readPart_111 ?_
          refine zr_putI (pc := 114) (z := 17) fX11_69 lo_46 rfl fwX11_17 rfl rfl dX11_readPart_114 ?_
          exact zr_return (pc := 117) dX11_readPart_117 rfl (hbad _ (hfr.put 46 _ _ (by omega)) (by
              have hR1 : R0.1 = M 46 16 := rd_no hlt (by rw [htk, if_neg (fun y => by have : M 46 11 < 4 := y.2; omega), if_neg (fun y => by have : M 46 12 < 4 := y.2; omega)]) hG.2.2.2
              exact ⟨by rw [put_at, hR1], by omega⟩))
        · refine zr_aload_n (pc := 45) dX11_readPart_45 rfl rfl ?_
          refine zr_dup_r (pc := 46) dX11_readPart_46 ?_
          refine zr_getI (pc := 47) (z := 16) fX11_72 lo_46 rfl rfl rfl dX11_readPart_47 ?_
          refine zr_iconst (pc := 50) dX11_readPart_50 ?_
          refine zr_iadd (pc := 51) dX11_readPart_51 ?_
          refine zr_putI (pc := 52) (z := 16) fX11_72 lo_46 rfl fwX11_16 rfl rfl dX11_readPart_52 ?_
          refine zr_aload_n (pc := 55) dX11_readPart_55 rfl rfl ?_
          refine zr_getR (pc := 56) fX11_34 lo_46 rfl rfl dX11_readPart_56 ?_
          refine zr_iconst (pc := 59) dX11_readPart_59 ?_
          refine zr_aload_n (pc := 60) dX11_readPart_60 rfl rfl ?_
          refine zr_getI (pc := 61) (z := 12) fX11_82 lo_46 rfl rfl rfl dX11_readPart_61 ?_
          rw [← eM1, g12]
          refine zr_imul (pc := 64) dX11_readPart_64 ?_
          refine zr_aload_n (pc := 65) dX11_readPart_65 rfl rfl ?_
          refine zr_bipush (pc := 66) dX11_readPart_66 (by decide) ?_
          refine zr_bipush (pc := 68) dX11_readPart_68 (by decide) ?_
          refine zr_iconst (pc := 70) dX11_readPart_70 ?_
          refine zr_inv3I (pc := 71) rfl sX11_95 lo_46 rfl rfl rfl dX11_readPart_71 ?_
          have htk2 : tkS (B 56 (M 46 16)) (st, tp, lvR M, cvR M) = some (5, tp, lvR M, cvR M) := by rw [htk, if_neg (fun y => by omega), if_pos ⟨h34, h42⟩]
          have hW5 := RW_tk hG.2.2.1 htk2
          have hR5 := rd_ok hlt htk2 hG.2.2.2
          refine ct_X11_nextOf (by omega) (by omega) (fun y => by rw [g56]; exact hx _ (by omega) (by omega)) (by omega) (by decide) (by decide) (by decide) (fun y => absurd g17 y) (fun _ hb1 hb2 _ => ?_) (fun _ hc => ?_)
          · rw [g1] at hb1
            rw [g56, g1] at hb2
            rw [g56, g1]
            have htk6 : tkS (B 56 (M 46 16 + 1)) (5, tp, lvR M, cvR M) = some (6, B 56 (M 46 16 + 1) - 48, lvR M, cvR M) := by rw [tk5, if_pos (by omega)]
            have hW6 := RW_tk hW5 htk6
            have hR6 := rd_ok (by omega) htk6 hR5
            obtain ⟨v, ev⟩ : ∃ v, v = B 56 (M 46 16 + 1) - 48 := ⟨_, rfl⟩
            rw [← ev] at hb2 hW6 hR6 ⊢
            obtain ⟨M3, eM3⟩ : ∃ M3, M3 = zm_put (zm_put M1 46 16 (M 46 16 + 1 + 1)) 55 (2 * M 46 12) v := ⟨_, rfl⟩
            have f3 : ∀ (k : Nat) (i : Int), k ≠ 55 → (k ≠ 46 ∨ i ≠ 16) → M3 k i = M k i := fun k i a b => by rw [eM3, put_nk _ _ _ _ a, show zm_put _ 46 16 _ k i = M1 k i from if_neg (by omega)]; exact f1 _ _ b
            have k16 : M3 46 16 = M 46 16 + 1 + 1 := by rw [eM3, put_nk _ _ _ _ (by decide), put_at]
            have k17 : M3 46 17 = -9 := by rw [f3 _ _ (by decide) (by omega)]; exact hG1
            have gfr3 : frRd B M3 := by rw [eM3]; exact (gfr1.put 46 _ _ (by omega)).put 55 _ _ (by omega)
            refine zr_iastore (pc := 74) lo_55 (by omega) dX11_readPart_74 ?_
            rw [← eM3]
            refine zr_aload_n (pc := 75) dX11_readPart_75 rfl rfl ?_
            refine zr_getR (pc := 76) fX11_34 lo_46 rfl rfl dX11_readPart_76 ?_
            refine zr_iconst (pc := 79) dX11_readPart_79 ?_
            refine zr_aload_n (pc := 80) dX11_readPart_80 rfl rfl ?_
            refine zr_getI (pc := 81) (z := 12) fX11_82 lo_46 rfl rfl rfl dX11_readPart_81 ?_
            have k12 : M3 46 12 = M 46 12 := by rw [f3 _ _ (by decide) (by omega)]
            rw [k12]
            refine zr_imul (pc := 84) dX11_readPart_84 ?_
            refine zr_iconst (pc := 85) dX11_readPart_85 ?_
            refine zr_iadd (pc := 86) dX11_readPart_86 ?_
            refine zr_aload_n (pc := 87) dX11_readPart_87 rfl rfl ?_
            refine zr_bipush (pc := 88) dX11_readPart_88 (by decide) ?_
            refine zr_iconst (pc := 90) dX11_readPart_90 ?_
            refine zr_iconst (pc := 91) dX11_readPart_91 ?_
            refine zr_inv3I (pc := 92) rfl sX11_95 lo_46 rfl rfl rfl dX11_readPart_92 ?_
            have k15 : M3 46 15 = B 46 15 := by rw [f3 _ _ (by decide) (by omega), e15]
            have k56 : ∀ i, M3 56 i = B 56 i := fun i => gfr3 56 i (by omega) (by omega)
            refine ct_X11_nextOf (by omega) (by omega) (fun y => by rw [k56]; exact hx _ (by omega) (by omega)) (by omega) (by decide) (by decide) (by decide) (fun y => absurd k17 y) (fun _ hd1 hd2 _ => ?_) (fun _ hd => ?_)
            · rw [k56, k16] at hd2
              rw [k56, k16]
              have htk7 : tkS (B 56 (M 46 16 + 1 + 1)) (6, v, lvR M, cvR M) = some (1, v, lvR M, cAdT v (B 56 (M 46 16 + 1 + 1) - 48) (cvR M)) := by rw [tk6, if_pos (by omega)]
              have hW7 := RW_tk hW6 htk7
              have hR7 := rd_ok (by omega) htk7 hR6
              refine zr_iastore (pc := 95) lo_55 (by omega) dX11_readPart_95 ?_
              refine zr_aload_n (pc := 96) dX11_readPart_96 rfl rfl ?_
              refine zr_dup_r (pc := 97) dX11_readPart_97 ?_
              refine zr_getI (pc := 98) (z := 12) fX11_82 lo_46 rfl rfl rfl dX11_readPart_98 ?_
              rw [put_nk _ (k := 55) (k2 := 46) _ _ _ (by decide), put_ni M3 (k2 := 46) (j := 12) _ (by decide), k12]
              refine zr_iconst (pc := 101) dX11_readPart_101 ?_
              refine zr_iadd (pc := 102) dX11_readPart_102 ?_
              refine zr_putI (pc := 103) (z := 12) fX11_82 lo_46 rfl fwX11_12 rfl rfl dX11_readPart_103 ?_
              refine zr_goto (pc := 106) (tgt := 117) dX11_readPart_106 (by decide) ?_
              exact zr_return (pc := 117) dX11_readPart_117 rfl (by
                  obtain ⟨y, hy⟩ : ∃ y, y = B 56 (M 46 16 + 1 + 1) - 48 := ⟨_, rfl⟩
                  rw [← hy] at hW7 hR7 ⊢
                  obtain ⟨M5, eM5⟩ : ∃ M5, M5 = zm_put (zm_put (zm_put M3 46 16 (M 46 16 + 1 + 1 + 1)) 55 (2 * M 46 12 + 1) y) 46 12 (M 46 12 + 1) := ⟨_, rfl⟩
                  rw [← eM5]
                  have f5 : ∀ (k : Nat) (i : Int), k ≠ 55 → (k ≠ 46 ∨ (i ≠ 16 ∧ i ≠ 12)) → M5 k i = M k i := fun k i a b => by
                    rw [eM5, show zm_put _ 46 12 _ k i = _ from if_neg (by omega), put_nk _ _ _ _ a, show zm_put _ 46 16 _ k i = _ from if_neg (by omega)]
                    exact f3 k i a (by omega)
                  have j16 : M5 46 16 = M 46 16 + 1 + 1 + 1 := by rw [eM5, put_ni _ _ (by decide), put_nk _ _ _ _ (by decide), put_at]
                  have j12 : M5 46 12 = M 46 12 + 1 := by rw [eM5, put_at]
                  have jL : lvR M5 = lvR M := lvR_fr (f5 _ _ (by decide) (by omega)) (fun k i a b => f5 _ _ (by omega) (by omega))
                  have jC : cvR M5 = cAdT v y (cvR M) := by
                    rw [← cvR_ad hCt.1]
                    refine cvR_fr (by rw [j12, put_at]) (fun i => ?_)
                    rw [eM5, put_nk _ _ _ _ (show 55 ≠ 46 by decide), put_nk _ _ _ _ (show 55 ≠ 46 by decide)]
                    by_cases hi : i = 2 * M 46 12 + 1
                    · rw [hi, put_at, put_at]
                    · rw [put_ni _ _ hi, put_ni _ _ hi, put_nk _ _ _ _ (show 55 ≠ 46 by decide), eM3]
                      by_cases hi2 : i = 2 * M 46 12
                      · rw [hi2, put_at, put_at]
                      · rw [put_ni _ _ hi2, put_ni _ _ hi2, put_nk _ _ _ _ (show 55 ≠ 46 by decide)]
                        exact f1 _ _ (by omega)
                  refine hgood M5 ?_ (by omega) 1 v (Or.inl rfl) ?_ ?_ (fun _ => tk1)
                  · rw [eM5]
                    exact ((gfr3.put 46 _ _ (by omega)).put 55 _ _ (by omega)).put 46 _ _ (by omega)
                  · unfold rdG
                    rw [jL, jC, j16]
                    exact ⟨by rw [f5 _ _ (by decide) (by omega)]; exact hG1, by omega, hW7, hR7⟩
                  · rw [jL, f5 _ _ (by decide) (by omega)]
                    exact hP)
            · have hR1 : R0.1 = M 46 16 + 1 + 1 := by
                by_cases hl2 : M 46 16 + 1 + 1 < B 46 15
                · refine rd_no hl2 ?_ hR6
                  rw [tk6, if_neg (fun y => hd (by omega) (by
                    rw [k56, k16]
                    exact ⟨⟨y.1, by omega⟩, bt0 _⟩))]
                · rw [rd_en (by omega) hR6]
                  rfl
              rw [k16]
              refine zr_iastore (pc := 95) lo_55 (by omega) dX11_readPart_95 ?_
              refine zr_aload_n (pc := 96) dX11_readPart_96 rfl rfl ?_
              refine zr_dup_r (pc := 97) dX11_readPart_97 ?_
              refine zr_getI (pc := 98) (z := 12) fX11_82 lo_46 rfl rfl rfl dX11_readPart_98 ?_
              rw [put_nk _ (k := 55) (k2 := 46) _ _ _ (by decide), put_ni M3 (k2 := 46) (j := 12) _ (by decide), k12]
              refine zr_iconst (pc := 101) dX11_readPart_101 ?_
              refine zr_iadd (pc := 102) dX11_readPart_102 ?_
              refine zr_putI (pc := 103) (z := 12) fX11_82 lo_46 rfl fwX11_12 rfl rfl dX11_readPart_103 ?_
              refine zr_goto (pc := 106) (tgt := 117) dX11_readPart_106 (by decide) ?_
              exact zr_return (pc := 117) dX11_readPart_117 rfl (hbad _ (((gfr3.put 46 _ _ (by omega)).put 55 _ _ (by omega)).put 46 _ _ (by omega)) ⟨by rw [put_ni _ _ (by decide), put_nk _ _ _ _ (by decide), put_at, hR1], by omega⟩)
          · have hR1 : R0.1 = M 46 16 + 1 := by
              by_cases hl2 : M 46 16 + 1 < B 46 15
              · refine rd_no hl2 ?_ hR5
                rw [tk5, if_neg (fun y => hc (by omega) (by
                  rw [g56, g1]
                  exact ⟨⟨y.1, by omega⟩, bt0 _⟩))]
              · rw [rd_en (by omega) hR5]
                rfl
            rw [g1]
            obtain ⟨M3, eM3⟩ : ∃ M3, M3 = zm_put (zm_put M1 46 17 (M 46 16 + 1)) 55 (2 * M 46 12) 0 := ⟨_, rfl⟩
            have f3 : ∀ (k : Nat) (i : Int), k ≠ 55 → (k ≠ 46 ∨ i ≠ 17) → M3 k i = M1 k i := fun k i a b => by rw [eM3, put_nk _ _ _ _ a]; exact if_neg (by omega)
            have k17 : M3 46 17 = M 46 16 + 1 := by rw [eM3, put_nk _ _ _ _ (by decide), put_at]
            have gfr3 : frRd B M3 := by rw [eM3]; exact (gfr1.put 46 _ _ (by omega)).put 55 _ _ (by omega)
            refine zr_iastore (pc := 74) lo_55 (by omega) dX11_readPart_74 ?_
            rw [← eM3]
            refine zr_aload_n (pc := 75) dX11_readPart_75 rfl rfl ?_
            refine zr_getR (pc := 76) fX11_34 lo_46 rfl rfl dX11_readPart_76 ?_
            refine zr_iconst (pc := 79) dX11_readPart_79 ?_
            refine zr_aload_n (pc := 80) dX11_readPart_80 rfl rfl ?_
            refine zr_getI (pc := 81) (z := 12) fX11_82 lo_46 rfl rfl rfl dX11_readPart_81 ?_
            have k12 : M3 46 12 = M 46 12 := by rw [f3 _ _ (by decide) (by omega), g12]
            rw [k12]
            refine zr_imul (pc := 84) dX11_readPart_84 ?_
            refine zr_iconst (pc := 85) dX11_readPart_85 ?_
            refine zr_iadd (pc := 86) dX11_readPart_86 ?_
            refine zr_aload_n (pc := 87) dX11_readPart_87 rfl rfl ?_
            refine zr_bipush (pc := 88) dX11_readPart_88 (by decide) ?_
            refine zr_iconst (pc := 90) dX11_readPart_90 ?_
            refine zr_iconst (pc := 91) dX11_readPart_91 ?_
            refine zr_inv3I (pc := 92) rfl sX11_95 lo_46 rfl rfl rfl dX11_readPart_92 ?_
            have k16 : M3 46 16 = M 46 16 + 1 := by rw [f3 _ _ (by decide) (by omega), g1]
            have k15 : M3 46 15 = B 46 15 := by rw [f3 _ _ (by decide) (by omega), g15]
            refine ct_X11_nextOf (by omega) (by omega) (fun y => by rw [gfr3 56 _ (by omega) (by omega)]; exact hx _ (by omega) (by omega)) (by omega) (by decide) (by decide) (by decide) (fun _ => ?_) (fun y => absurd y (by omega)) (fun y => absurd y (by omega))
            refine zr_iastore (pc := 95) lo_55 (by omega) dX11_readPart_95 ?_
            refine zr_aload_n (pc := 96) dX11_readPart_96 rfl rfl ?_
            refine zr_dup_r (pc := 97) dX11_readPart_97 ?_
            refine zr_getI (pc := 98) (z := 12) fX11_82 lo_46 rfl rfl rfl dX11_readPart_98 ?_
            rw [put_nk _ (k := 55) (k2 := 46) _ _ _ (by decide), k12]
            refine zr_iconst (pc := 101) dX11_readPart_101 ?_
            refine zr_iadd (pc := 102) dX11_readPart_102 ?_
            refine zr_putI (pc := 103) (z := 12) fX11_82 lo_46 rfl fwX11_12 rfl rfl dX11_readPart_103 ?_
            refine zr_goto (pc := 106) (tgt := 117) dX11_readPart_106 (by decide) ?_
            exact zr_return (pc := 117) dX11_readPart_117 rfl (hbad _ ((gfr3.put 55 _ _ (by omega)).put 46 _ _ (by omega)) ⟨by rw [put_ni _ _ (by decide), put_nk _ _ _ _ (by decide), k17, hR1], by omega⟩)
    · refine zr_aload_n (pc := 14) dX11_readPart_14 rfl rfl ?_
      refine zr_dup_r (pc := 15) dX11_readPart_15 ?_
      refine zr_getI (pc := 16) (z := 16) fX11_72 lo_46 rfl rfl rfl dX11_readPart_16 ?_
      refine zr_iconst (pc := 19) dX11_readPart_19 ?_
      refine zr_iadd (pc := 20) dX11_readPart_20 ?_
      refine zr_putI (pc := 21) (z := 16) fX11_72 lo_46 rfl fwX11_16 rfl rfl dX11_readPart_21 ?_
      refine zr_aload_n (pc := 24) dX11_readPart_24 rfl rfl ?_
      refine zr_inv0V (pc := 25) rfl sX11_92 lo_46 rfl rfl rfl dX11_readPart_25 ?_
      rw [← eM1]
      have htk2 : tkS (B 56 (M 46 16)) (st, tp, lvR M, cvR M) = some (2, tp, lvR M, cvR M) := by rw [htk, if_pos ⟨h3, h11⟩]
      refine ct_X11_readOne (R0 := R0) (A0 := A0) (tp := tp) hn hx gfr1 ?_ (by rw [gL1, f1 _ _ (by omega)]; exact hP) (by rw [g1]; exact hA0) (fun M2 a b => ?_) (fun M2 a a0 st2 tp2 b c d e => ?_)
      · unfold rdG
        rw [gL1, gC1, g1]
        exact ⟨g17, by omega, RW_tk hG.2.2.1 htk2, rd_ok hlt htk2 hG.2.2.2⟩
      · refine zr_goto (pc := 28) (tgt := 117) dX11_readPart_28 (by decide) ?_
        exact zr_return (pc := 117) dX11_readPart_117 rfl (hbad M2 a b)
      · refine zr_goto (pc := 28) (tgt := 117) dX11_readPart_28 (by decide) ?_
        exact zr_return (pc := 117) dX11_readPart_117 rfl (hgood M2 a a0 st2 tp2 b c d e)

set_option maxRecDepth 100000 in
set_option maxHeartbeats 4000000 in
theorem lp_X11_readTextB {g : zt_G} {M : zm_M} {q : Int → zm_M → Prop} (hn : 0 ≤ M 46 15 ∧ M 46 15 ≤ 48) (hx : ∀ i, 0 ≤ i → i < M 46 15 → 0 ≤ M 56 i ∧ M 56 i ≤ 255) (h : ∀ M2, frRd M M2 → ((rdO (M 56) (M 46 15) 0).1 = -9 → lvR M2 = (rdO (M 56) (M 46 15) 0).2.2.2.1 ∧ cvR M2 = (rdO (M 56) (M 46 15) 0).2.2.2.2) → q (rdO (M 56) (M 46 15) 0).1 M2) {Mx : zm_M} (hfr : frRd M Mx) (hB : rdB (rdO (M 56) (M 46 15) 0) Mx) : zc_Z g mX11_readText 51 [some (zv_r 46)] [] Mx (zq_I q) := by
  have hB1 := hB.1
  have hB2 := hB.2
  refine zr_aload_n (pc := 51) dX11_readText_51 rfl rfl ?_
  refine zr_getI (pc := 52) (z := 17) fX11_69 lo_46 rfl rfl rfl dX11_readText_52 ?_
  refine zr_bipush (pc := 55) dX11_readText_55 (by decide) ?_
  refine zi_icmp_ne (pc := 57) (tgt := 87) dX11_readText_57 (by decide) (by omega) (by omega) (fun h57 => ?_) (fun h57 => ?_)
  · refine zr_aload_n (pc := 87) dX11_readText_87 rfl rfl ?_
    refine zr_getI (pc := 88) (z := 17) fX11_69 lo_46 rfl rfl rfl dX11_readText_88 ?_
    exact zr_ireturn (pc := 91) dX11_readText_91 rfl (zq_eq (h Mx hfr (fun y => absurd y (by omega))) hB1)
  · exact absurd h57 (by omega)

set_option maxRecDepth 100000 in
set_option maxHeartbeats 4000000 in
theorem lp_X11_readText {g : zt_G} {M : zm_M} {q : Int → zm_M → Prop} (hn : 0 ≤ M 46 15 ∧ M 46 15 ≤ 48) (hx : ∀ i, 0 ≤ i → i < M 46 15 → 0 ≤ M 56 i ∧ M 56 i ≤ 255) (h : ∀ M2, frRd M M2 → ((rdO (M 56) (M 46 15) 0).1 = -9 → lvR M2 = (rdO (M 56) (M 46 15) 0).2.2.2.1 ∧ cvR M2 = (rdO (M 56) (M 46 15) 0).2.2.2.2) → q (rdO (M 56) (M 46 15) 0).1 M2) : ∀ (nn : Nat) (st tp : Int) (Mx : zm_M), (M 46 15 - Mx 46 16).toNat = nn → frRd M Mx → (st = 1 ∨ st = 4) → rdG M (rdO (M 56) (M 46 15) 0) st tp (lvR Mx) (cvR Mx) Mx → PL (Mx 46 13) (lvR Mx) → (Mx 46 16 < M 46 15 → tkS (M 56 (Mx 46 16)) (st, tp, lvR Mx, cvR Mx) = bgS (M 56 (Mx 46 16)) (st, tp, lvR Mx, cvR Mx)) → zc_Z g mX11_readText 51 [some (zv_r 46)] [] Mx (zq_I q) := by
  intro nn
  induction nn using Nat.strongRecOn with
  | ind nn ih =>
    intro st tp Mx hnn hfr hst hG hP htk
    have hG1 := hG.1
    have hG2 := hG.2.1
    have e15 : Mx 46 15 = M 46 15 := hfr 46 15 (by omega) (by omega)
    refine zr_aload_n (pc := 51) dX11_readText_51 rfl rfl ?_
    refine zr_getI (pc := 52) (z := 17) fX11_69 lo_46 rfl rfl rfl dX11_readText_52 ?_
    refine zr_bipush (pc := 55) dX11_readText_55 (by decide) ?_
    refine zi_icmp_ne (pc := 57) (tgt := 87) dX11_readText_57 (by decide) (by omega) (by omega) (fun h57 => ?_) (fun h57 => ?_)
    · refine zr_aload_n (pc := 87) dX11_readText_87 rfl rfl ?_
      refine zr_getI (pc := 88) (z := 17) fX11_69 lo_46 rfl rfl rfl dX11_readText_88 ?_
      exact zr_ireturn (pc := 91) dX11_readText_91 rfl (absurd hG1 h57)
    · refine zr_aload_n (pc := 60) dX11_readText_60 rfl rfl ?_
      refine zr_getI (pc := 61) (z := 16) fX11_72 lo_46 rfl rfl rfl dX11_readText_61 ?_
      refine zr_aload_n (pc := 64) dX11_readText_64 rfl rfl ?_
      refine zr_getI (pc := 65) (z := 15) fX11_65 lo_46 rfl rfl rfl dX11_readText_65 ?_
      refine zi_icmp_ge (pc := 68) (tgt := 87) dX11_readText_68 (by decide) (by omega) (by omega) (fun h68 => ?_) (fun h68 => ?_)
      · refine zr_aload_n (pc := 87) dX11_readText_87 rfl rfl ?_
        refine zr_getI (pc := 88) (z := 17) fX11_69 lo_46 rfl rfl rfl dX11_readText_88 ?_
        exact zr_ireturn (pc := 91) dX11_readText_91 rfl (by
            have hR := rd_en (by omega) hG.2.2.2
            rw [if_pos hst] at hR
            exact zq_eq (h Mx hfr (fun _ => by rw [hR]; exact ⟨rfl, rfl⟩)) (by rw [hR]; exact hG1))
      · refine zr_aload_n (pc := 71) dX11_readText_71 rfl rfl ?_
        refine zr_aload_n (pc := 72) dX11_readText_72 rfl rfl ?_
        refine zr_getR (pc := 73) fX11_37 lo_46 rfl rfl dX11_readText_73 ?_
        refine zr_aload_n (pc := 76) dX11_readText_76 rfl rfl ?_
        refine zr_getI (pc := 77) (z := 16) fX11_72 lo_46 rfl rfl rfl dX11_readText_77 ?_
        refine zr_iaload (pc := 80) lo_56 (by omega) dX11_readText_80 ?_
        rw [hfr 56 _ (by omega) (by omega)]
        refine zr_inv1V (pc := 81) rfl sX11_88 lo_46 rfl rfl rfl dX11_readText_81 ?_
        refine ct_X11_readPart (A0 := Mx 46 16 + 1) hn hx hfr hst hG hP (by omega) (htk (by omega)) (Int.le_refl _) (fun M2 a b => ?_) (fun M2 a a0 st2 tp2 b c d e => ?_)
        · refine zr_goto (pc := 84) (tgt := 51) dX11_readText_84 (by decide) ?_
          exact lp_X11_readTextB (g := g) hn hx h a b
        · refine zr_goto (pc := 84) (tgt := 51) dX11_readText_84 (by decide) ?_
          exact ih _ (by have := c.2.1; omega) st2 tp2 M2 rfl a b c d e

set_option maxRecDepth 100000 in
set_option maxHeartbeats 4000000 in
theorem ct_X11_readText {g : zt_G} {M : zm_M} {q : Int → zm_M → Prop} (hn : 0 ≤ M 46 15 ∧ M 46 15 ≤ 48) (hx : ∀ i, 0 ≤ i → i < M 46 15 → 0 ≤ M 56 i ∧ M 56 i ≤ 255) (h : ∀ M2, frRd M M2 → ((rdO (M 56) (M 46 15) 0).1 = -9 → lvR M2 = (rdO (M 56) (M 46 15) 0).2.2.2.1 ∧ cvR M2 = (rdO (M 56) (M 46 15) 0).2.2.2.2) → q (rdO (M 56) (M 46 15) 0).1 M2) : zc_K g yX11_readText mX11_readText [zv_r 46] M (zq_I q) := by
  refine zc_of (ls := [some (zv_r 46)]) (by decide) rfl ⟨rfl, rfl⟩ (Nat.le_of_ble_eq_true rfl) rfl ?_
  have hx0 := hx 0 (by decide)
  obtain ⟨M1, eM1⟩ : ∃ M1, M1 = zm_put (zm_put (zm_put (zm_put (zm_put M 46 16 0) 46 17 (-9)) 46 11 0) 46 12 0) 46 13 0 := ⟨_, rfl⟩
  have f1 : ∀ (k : Nat) (i : Int), (k ≠ 46 ∨ (i ≠ 16 ∧ i ≠ 17 ∧ i ≠ 11 ∧ i ≠ 12 ∧ i ≠ 13)) → M1 k i = M k i := fun k i a => by
    rw [eM1, show zm_put _ 46 13 _ k i = _ from if_neg (by omega), show zm_put _ 46 12 _ k i = _ from if_neg (by omega), show zm_put _ 46 11 _ k i = _ from if_neg (by omega), show zm_put _ 46 17 _ k i = _ from if_neg (by omega), show zm_put _ 46 16 _ k i = _ from if_neg (by omega)]
  have g13 : M1 46 13 = 0 := by rw [eM1, put_at]
  have g12 : M1 46 12 = 0 := by rw [eM1, put_ni _ _ (by decide), put_at]
  have g11 : M1 46 11 = 0 := by rw [eM1, put_ni _ _ (by decide), put_ni _ _ (by decide), put_at]
  have g17 : M1 46 17 = -9 := by rw [eM1, put_ni _ _ (by decide), put_ni _ _ (by decide), put_ni _ _ (by decide), put_at]
  have gfr : frRd M M1 := fun k i a b => f1 k i (by omega)
  have e15 : M1 46 15 = M 46 15 := f1 _ _ (by omega)
  have e56 : M1 56 0 = M 56 0 := f1 _ _ (by omega)
  refine zr_aload_n (pc := 0) dX11_readText_0 rfl rfl ?_
  refine zr_iconst (pc := 1) dX11_readText_1 ?_
  refine zr_putI (pc := 2) (z := 16) fX11_72 lo_46 rfl fwX11_16 rfl rfl dX11_readText_2 ?_
  refine zr_aload_n (pc := 5) dX11_readText_5 rfl rfl ?_
  refine zr_bipush (pc := 6) dX11_readText_6 (by decide) ?_
  refine zr_putI (pc := 8) (z := 17) fX11_69 lo_46 rfl fwX11_17 rfl rfl dX11_readText_8 ?_
  refine zr_aload_n (pc := 11) dX11_readText_11 rfl rfl ?_
  refine zr_iconst (pc := 12) dX11_readText_12 ?_
  refine zr_putI (pc := 13) (z := 11) fX11_79 lo_46 rfl fwX11_11 rfl rfl dX11_readText_13 ?_
  refine zr_aload_n (pc := 16) dX11_readText_16 rfl rfl ?_
  refine zr_iconst (pc := 17) dX11_readText_17 ?_
  refine zr_putI (pc := 18) (z := 12) fX11_82 lo_46 rfl fwX11_12 rfl rfl dX11_readText_18 ?_
  refine zr_aload_n (pc := 21) dX11_readText_21 rfl rfl ?_
  refine zr_iconst (pc := 22) dX11_readText_22 ?_
  refine zr_putI (pc := 23) (z := 13) fX11_85 lo_46 rfl fwX11_13 rfl rfl dX11_readText_23 ?_
  rw [← eM1]
  refine zr_aload_n (pc := 26) dX11_readText_26 rfl rfl ?_
  refine zr_getI (pc := 27) (z := 15) fX11_65 lo_46 rfl rfl rfl dX11_readText_27 ?_
  refine zi_if_eq (pc := 30) (tgt := 44) dX11_readText_30 (by decide) (by omega) (fun h30 => ?_) (fun h30 => ?_)
  · refine zr_iconst (pc := 44) dX11_readText_44 ?_
    exact zr_ireturn (pc := 45) dX11_readText_45 rfl (by
        have hR1 : (rdO (M 56) (M 46 15) 0).1 = 0 := by
          unfold rdO
          rw [show (M 46 15).toNat = 0 by omega]
          rfl
        exact zq_eq (h M1 gfr (fun y => absurd y (by omega))) hR1.symm)
  · have hx1 := hx0 (by omega)
    refine zr_aload_n (pc := 33) dX11_readText_33 rfl rfl ?_
    refine zr_getR (pc := 34) fX11_37 lo_46 rfl rfl dX11_readText_34 ?_
    refine zr_iconst (pc := 37) dX11_readText_37 ?_
    refine zr_iaload (pc := 38) lo_56 (by omega) dX11_readText_38 ?_
    refine zr_bipush (pc := 39) dX11_readText_39 (by decide) ?_
    refine zi_icmp_eq (pc := 41) (tgt := 46) dX11_readText_41 (by decide) (by rw [e56]; omega) (by omega) (fun h41 => ?_) (fun h41 => ?_)
    · refine zr_aload_n (pc := 46) dX11_readText_46 rfl rfl ?_
      refine zr_iconst (pc := 47) dX11_readText_47 ?_
      refine zr_putI (pc := 48) (z := 16) fX11_72 lo_46 rfl fwX11_16 rfl rfl dX11_readText_48 ?_
      have gC : cvR (zm_put M1 46 16 1) = cO := by
        unfold cvR cO
        rw [put_ni _ _ (by decide), g12]
        have e0 : ∀ f : Int → Int, msk 0 f = fun _ => 0 := fun f => funext fun i => if_neg (by omega)
        rw [e0, e0]
      have gL : lvR (zm_put M1 46 16 1) = lO := by
        unfold lvR lO
        rw [put_ni _ _ (by decide), g11]
        have e0 : ∀ f : Int → Int, msk 0 f = fun _ => 0 := fun f => funext fun i => if_neg (by omega)
        rw [e0, e0]
        refine Prod.ext rfl (Prod.ext rfl (Prod.ext rfl ?_))
        funext g k
        exact if_neg (by omega)
      have htk0 : tkS (M 56 0) (0, 0, lO, cO) = some (1, 0, lO, cO) := by
        unfold tkS
        rw [if_pos (show (0 : Int) = 0 from rfl), if_pos (by rw [← e56]; exact h41)]
      have hR1 := rd_ok (f := M 56) (n := M 46 15) (i := 0) (S := (0, 0, lO, cO)) (R0 := rdO (M 56) (M 46 15) 0) (by omega) htk0 (by unfold rdO; rw [Int.sub_zero])
      refine lp_X11_readText (g := g) hn hx h _ 1 0 _ rfl (gfr.put 46 _ _ (by omega)) (Or.inl rfl) ?_ ?_ (fun _ => tk1)
      · unfold rdG
        rw [gC, gL, put_at, put_ni _ _ (by decide)]
        exact ⟨g17, by omega, RW_tk (RW_0 0) htk0, hR1⟩
      · rw [gL, put_ni _ _ (by decide), g13]
        exact ⟨by decide, fun p a b => ⟨fun y => absurd y (bt0 p), fun y => absurd rfl y⟩⟩
    · refine zr_iconst (pc := 44) dX11_readText_44 ?_
      exact zr_ireturn (pc := 45) dX11_readText_45 rfl (by
          have hR1 : (rdO (M 56) (M 46 15) 0).1 = 0 := by
            unfold rdO
            refine rd_no (n := M 46 15) (i := 0) (S := (0, 0, lO, cO)) (f := M 56) (by omega) ?_ (by rw [Int.sub_zero])
            unfold tkS
            rw [if_pos (show (0 : Int) = 0 from rfl), if_neg (by rw [← e56]; exact h41)]
          exact zq_eq (h M1 gfr (fun y => absurd y (by omega))) hR1.symm)

theorem rdO_M {σ : Sg} {M : zm_M} (h : YT σ M) (hw : 0 ≤ (sT σ).1) : rdO (M 56) (M 46 15) 0 = rdT (sT σ) := by
  unfold rdT rdO
  rw [h.1, rdA_c (f := M 56) (f2 := (sT σ).2) (sT σ).1.toNat 0 _ (fun j a b => h.2 j a (by omega))]
set_option maxRecDepth 100000 in
set_option maxHeartbeats 4000000 in
theorem ct_X11_fault {g : zt_G} {M : zm_M} {σ : Sg} {q : Int → zm_M → Prop} (hR : RM σ M) (hW : SW σ) (h : ∀ M2, frM M M2 → RM σ M2 → q ((rdT (sT σ)).1) M2) : zc_K g yX11_fault mX11_fault [zv_r 46] M (zq_I q) := by
  refine zc_of (ls := [some (zv_r 46)]) (by decide) rfl ⟨rfl, rfl⟩ (Nat.le_of_ble_eq_true rfl) rfl ?_
  obtain ⟨hT, hl, hcv, hA, hK, hS, hD, hcd⟩ := id hR
  obtain ⟨wT, wTx, wL, ⟨wC, wZ⟩, wA, wK, wS⟩ := id hW
  have hLw : LW (lvM M) := by rw [hl]; exact wL
  have hCw : CW (cvG M 51 (14 * 0)) := by rw [hcv]; exact wC
  have hw0 := wGt hCw
  have hL0 := yMk hLw
  have hk1 : M 46 0 = (sL σ).1 := by rw [← hl]; rfl
  have ht1 : M 46 1 = ct (sC σ) := by rw [← hcv]; rfl
  have hT1 := hT.1
  refine zr_aload_n (pc := 0) dX11_fault_0 rfl rfl ?_
  refine zr_inv0I (pc := 1) rfl sX11_103 lo_46 rfl rfl rfl dX11_fault_1 ?_
  refine ct_X11_readText (by omega) (fun i a b => by rw [hT.2 i a (by omega)]; exact wTx i a (by omega)) (fun M1 hf1 hv1 => ?_)
  rw [rdO_M hT wT.1] at hv1 ⊢
  have hR1 : RM σ M1 := RM_frs hR hW (fun k i a b => hf1 k i (by unfold zsm at b; omega) (by unfold zsm at b; omega))
  exact zr_ireturn (pc := 4) dX11_fault_4 rfl (h M1 (fun k i a => hf1 k i (by omega) (by omega)) hR1)

