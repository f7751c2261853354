/-! two who lie up -/
def goK (L : Ln) (t g : Int) (D : Cm) : Cm := if (0 ≤ g ∧ g < L.1) ∧ cMay D t (L.2.1 g) then cgo t (L.2.1 g) D else D
def rsD (L : Ln) (C : Cm) (p r a b : Int) : Cm := nit L 0 (goK L r b (goK L p a C))
def gnO (D : Cm) (p r : Int) : Int := 2 * on6 (cn D p) - (if cp D p = cp D r then 3 else 0)
def rsR (L : Ln) (C : Cm) (p r a b : Int) : Bool := fo (fun g x => x && decide (gnO (rsD L C p r g b) p r ≤ gnO (rsD L C p r a b) p r ∧ gnO (rsD L C p r a g) r p ≤ gnO (rsD L C p r a b) r p)) true 4
def rsF (L : Ln) (C : Cm) (p r : Int) : Int → Int × Int → Int × Int := fun k x => if rsR L C p r (k / 4) (k % 4) = true then (x.1 + 1, if x.1 = 0 then 10 * (k / 4) + k % 4 else x.2) else x
def rsP (L : Ln) (C : Cm) (p r : Int) (n : Nat) : Int × Int := fo (rsF L C p r) (0, -9) n
def aRests (p r v : Int) (L : Ln) (C : Cm) : Int := if ¬ cHas C p ∨ ¬ cHas C r then -1 else if p = r ∨ ¬ (v = 0 ∨ v = 1) then -2 else if v = 0 then (rsP L C p r 16).1 else (rsP L C p r 16).2
theorem CW_goK {L : Ln} {t g : Int} {D : Cm} (hL : LW L) (h : CW D) : CW (goK L t g D) ∧ ct (goK L t g D) = ct D := by
  unfold goK
  split
  · rename_i hx
    have h1 := (hL.2.1 g).1
    exact ⟨CW_go h hx.2.1 h1, rfl⟩
  · exact ⟨h, rfl⟩
theorem CW_rsD {L : Ln} {p r a b : Int} {C : Cm} (hL : LW L) (h : CW C) : CW (rsD L C p r a b) ∧ ct (rsD L C p r a b) = ct C := by
  have h1 := CW_goK (t := p) (g := a) hL h
  have h2 := CW_goK (t := r) (g := b) hL h1.1
  exact ⟨CW_nit hL h2.1, nit_ct.trans (h2.2.trans h1.2)⟩
theorem gnO_in {D : Cm} (h : CW D) (p r : Int) : -3 ≤ gnO D p r ∧ gnO D p r ≤ 12 := by
  have h1 := on6_i (h.2.2 p).2.2.1
  unfold gnO
  split <;> omega
set_option maxRecDepth 100000 in
set_option maxHeartbeats 4000000 in
theorem ct_X2_goToKiln {g : zt_G} {M : zm_M} {q : zm_M → Prop} (hC : CW (cvX M 22)) (hL : LW (lvX M 13)) {t k : Int} (ht : zi t) (hk : zi k) (h : ∀ M2, frC 22 M M2 → cvX M2 22 = goK (lvX M 13) t k (cvX M 22) → q M2) : zc_K g yX2_goToKiln mX2_goToKiln [zv_r 22, zv_r 13, zv_i t, zv_i k] M (zq_V q) := by
  refine zc_of (ls := [some (zv_r 22), some (zv_r 13), some (zv_i t), some (zv_i k)]) (by decide) rfl ⟨rfl, rfl⟩ (Nat.le_of_ble_eq_true rfl) rfl ?_
  have hk4 := yXk hL
  refine zr_aload_n (pc := 0) dX2_goToKiln_0 rfl rfl ?_
  refine zr_iload_n (pc := 1) dX2_goToKiln_1 rfl rfl ?_
  refine zr_inv1I (pc := 2) rfl sX2_47 zp_l13.1 rfl rfl rfl dX2_goToKiln_2 ?_
  refine ct_X3_has zp_l13 hL hk ?_
  refine zr_ifb_eq (pc := 5) (tgt := 20) dX2_goToKiln_5 (by decide) (fun h5 => ?_) (fun h5 => ?_)
  · exact zr_return (pc := 20) dX2_goToKiln_20 rfl (h _ frC.rf (by unfold goK; rw [if_neg (fun y => h5 y.1)]))
  · have hy := yX hL h5
    have ep : (lvX M 13).2.1 k = M (13 + 1) k := lX_p h5
    refine zr_aload_n (pc := 8) dX2_goToKiln_8 rfl rfl ?_
    refine zr_iload_n (pc := 9) dX2_goToKiln_9 rfl rfl ?_
    refine zr_aload_n (pc := 10) dX2_goToKiln_10 rfl rfl ?_
    refine zr_getR (pc := 11) fX2_53 zp_l13.1 rfl rfl dX2_goToKiln_11 ?_
    refine zr_iload_n (pc := 14) dX2_goToKiln_14 rfl rfl ?_
    refine zr_iaload (pc := 15) zp_l13.2.1 (by omega) dX2_goToKiln_15 ?_
    refine zr_inv2I (pc := 16) rfl sX2_56 zp_c22.1 rfl rfl rfl dX2_goToKiln_16 ?_
    refine ct_X1_goesIfItMay zp_c22 hC ht (by omega) (fun hz => ?_) (fun hz M2 hf2 hv2 => ?_)
    · refine zr_pop_i (pc := 19) dX2_goToKiln_19 ?_
      exact zr_return (pc := 20) dX2_goToKiln_20 rfl (h _ frC.rf (by unfold goK; rw [if_neg (fun y => hz (by rw [← ep]; exact y.2))]))
    · refine zr_pop_i (pc := 19) dX2_goToKiln_19 ?_
      exact zr_return (pc := 20) dX2_goToKiln_20 rfl (h _ hf2 (by unfold goK; rw [if_pos ⟨h5, by rw [ep]; exact hz⟩, ep]; exact hv2))

set_option maxRecDepth 100000 in
set_option maxHeartbeats 4000000 in
theorem ct_X2_gainOf {g : zt_G} {M : zm_M} {q : Int → zm_M → Prop} (hC : CW (cvX M 22)) {p r : Int} (hp : cHas (cvX M 22) p) (hr : cHas (cvX M 22) r) (h : q (gnO (cvX M 22) p r) M) : zc_K g yX2_gainOf mX2_gainOf [zv_r 22, zv_i p, zv_i r] M (zq_I q) := by
  refine zc_of (ls := [some (zv_r 22), some (zv_i p), some (zv_i r), none]) (by decide) rfl ⟨rfl, rfl⟩ (Nat.le_of_ble_eq_true rfl) rfl ?_
  have ep : 0 ≤ p ∧ p < M 22 5 := hp
  have er : 0 ≤ r ∧ r < M 22 5 := hr
  have hc5 := wXt hC
  have hwp := wX hC ep
  have hwr := wX hC er
  have hon := on6_i hwp.2.2.1
  have enp : cn (cvX M 22) p = M (22 + 3) p := vX_n ep
  have epp : cp (cvX M 22) p = M (22 + 1) p := vX_p ep
  have epr : cp (cvX M 22) r = M (22 + 1) r := vX_p er
  refine zr_iconst (pc := 0) dX2_gainOf_0 ?_
  refine zr_aload_n (pc := 1) dX2_gainOf_1 rfl rfl ?_
  refine zr_getR (pc := 2) fX2_59 zp_c22.1 rfl rfl dX2_gainOf_2 ?_
  refine zr_iload_n (pc := 5) dX2_gainOf_5 rfl rfl ?_
  refine zr_iaload (pc := 6) zp_c22.2.2.2.1 (by omega) dX2_gainOf_6 ?_
  refine zr_stat1I (pc := 7) rfl sX2_62 rfl rfl dX2_gainOf_7 ?_
  refine ct_bitCount hwp.2.2.1 ?_
  refine zr_imul (pc := 10) dX2_gainOf_10 ?_
  refine zr_istore_n (pc := 11) dX2_gainOf_11 rfl (Nat.le_of_ble_eq_true rfl) rfl ?_
  refine zr_aload_n (pc := 12) dX2_gainOf_12 rfl rfl ?_
  refine zr_getR (pc := 13) fX2_68 zp_c22.1 rfl rfl dX2_gainOf_13 ?_
  refine zr_iload_n (pc := 16) dX2_gainOf_16 rfl rfl ?_
  refine zr_iaload (pc := 17) zp_c22.2.1 (by omega) dX2_gainOf_17 ?_
  refine zr_aload_n (pc := 18) dX2_gainOf_18 rfl rfl ?_
  refine zr_getR (pc := 19) fX2_68 zp_c22.1 rfl rfl dX2_gainOf_19 ?_
  refine zr_iload_n (pc := 22) dX2_gainOf_22 rfl rfl ?_
  refine zr_iaload (pc := 23) zp_c22.2.1 (by omega) dX2_gainOf_23 ?_
  refine zi_icmp_ne (pc := 24) (tgt := 33) dX2_gainOf_24 (by decide) (by omega) (by omega) (fun h24 => ?_) (fun h24 => ?_)
  · refine zr_iload_n (pc := 33) dX2_gainOf_33 rfl rfl ?_
    exact zr_ireturn (pc := 34) dX2_gainOf_34 rfl (zq_eq h (by unfold gnO; rw [enp, epp, epr, if_neg h24, Int.sub_zero]))
  · refine zr_iload_n (pc := 27) dX2_gainOf_27 rfl rfl ?_
    refine zr_iconst (pc := 28) dX2_gainOf_28 ?_
    refine zr_isub (pc := 29) dX2_gainOf_29 ?_
    refine zr_goto (pc := 30) (tgt := 34) dX2_gainOf_30 (by decide) ?_
    exact zr_ireturn (pc := 34) dX2_gainOf_34 rfl (zq_eq h (by unfold gnO; rw [enp, epp, epr, if_pos h24]))

theorem fo_false {f : Int → Bool} : ∀ (n k : Nat), k < n → f (k : Int) = false → fo (fun g x => x && f g) true n = false
  | 0, k, h, _ => by omega
  | n + 1, k, h, hf => by
    show (fo (fun g x => x && f g) true n && f (n : Int)) = false
    by_cases hk : k = n
    · subst hk
      rw [hf, Bool.and_false]
    · rw [fo_false n k (by omega) hf, Bool.false_and]
set_option maxRecDepth 100000 in
set_option maxHeartbeats 4000000 in
theorem lp_X2_isAtRest {g : zt_G} {M : zm_M} {q : Int → zm_M → Prop} {L : Ln} {C : Cm} {p r : Int} (hL : LW L) (hC : CW C) (hm : ∀ a b, 0 ≤ a → a < 4 → 0 ≤ b → b < 4 → M 44 (4 * a + b) = gnO (rsD L C p r a b) p r ∧ M 45 (4 * a + b) = gnO (rsD L C p r a b) r p) {a b : Int} (ha : 0 ≤ a ∧ a < 4) (hb : 0 ≤ b ∧ b < 4) (h : q (zb_B (rsR L C p r a b = true)) M) : ∀ (nn : Nat) (k : Int), (4 - k).toNat = nn → 0 ≤ k → k ≤ 4 → fo (fun g x => x && decide (gnO (rsD L C p r g b) p r ≤ gnO (rsD L C p r a b) p r ∧ gnO (rsD L C p r a g) r p ≤ gnO (rsD L C p r a b) r p)) true k.toNat = true → zc_Z g mX2_isAtRest 9 [some (zv_r 43), some (zv_i a), some (zv_i b), some (zv_i (4 * a + b)), some (zv_i k)] [] M (zq_I q) := by
  intro nn
  induction nn using Nat.strongRecOn with
  | ind nn ih =>
    intro k hn h0 h1 hT
    refine zr_iload (pc := 9) dX2_isAtRest_9 rfl ?_
    refine zr_iconst (pc := 11) dX2_isAtRest_11 ?_
    refine zi_icmp_ge (pc := 12) (tgt := 63) dX2_isAtRest_12 (by decide) (by omega) (by omega) (fun h12 => ?_) (fun h12 => ?_)
    · refine zr_iconst (pc := 63) dX2_isAtRest_63 ?_
      exact zr_zreturn (pc := 64) dX2_isAtRest_64 rfl (by decide) (zq_eq h (zb_T (by rw [show k = 4 by omega] at hT; exact hT)))
    · have m1 := hm k b h0 (by omega) hb.1 hb.2
      have m2 := hm a b ha.1 ha.2 hb.1 hb.2
      have m3 := hm a k ha.1 ha.2 h0 (by omega)
      have i1 := gnO_in (CW_rsD (p := p) (r := r) (a := k) (b := b) hL hC).1 p r
      have i2 := gnO_in (CW_rsD (p := p) (r := r) (a := a) (b := b) hL hC).1 p r
      have i3 := gnO_in (CW_rsD (p := p) (r := r) (a := a) (b := b) hL hC).1 r p
      have i4 := gnO_in (CW_rsD (p := p) (r := r) (a := a) (b := k) hL hC).1 r p
      refine zr_aload_n (pc := 15) dX2_isAtRest_15 rfl rfl ?_
      refine zr_getR (pc := 16) fX2_11 lo_43 rfl rfl dX2_isAtRest_16 ?_
      refine zr_iconst (pc := 19) dX2_isAtRest_19 ?_
      refine zr_iload (pc := 20) dX2_isAtRest_20 rfl ?_
      refine zr_imul (pc := 22) dX2_isAtRest_22 ?_
      refine zr_iload_n (pc := 23) dX2_isAtRest_23 rfl rfl ?_
      refine zr_iadd (pc := 24) dX2_isAtRest_24 ?_
      refine zr_iaload (pc := 25) lo_44 (by omega) dX2_isAtRest_25 ?_
      refine zr_aload_n (pc := 26) dX2_isAtRest_26 rfl rfl ?_
      refine zr_getR (pc := 27) fX2_11 lo_43 rfl rfl dX2_isAtRest_27 ?_
      refine zr_iload_n (pc := 30) dX2_isAtRest_30 rfl rfl ?_
      refine zr_iaload (pc := 31) lo_44 (by omega) dX2_isAtRest_31 ?_
      refine zi_icmp_gt (pc := 32) (tgt := 55) dX2_isAtRest_32 (by decide) (by omega) (by omega) (fun h32 => ?_) (fun h32 => ?_)
      · refine zr_iconst (pc := 55) dX2_isAtRest_55 ?_
        exact zr_zreturn (pc := 56) dX2_isAtRest_56 rfl (by decide) (zq_eq h (zb_F (by unfold rsR; rw [fo_false (f := fun g => decide (gnO (rsD L C p r g b) p r ≤ gnO (rsD L C p r a b) p r ∧ gnO (rsD L C p r a g) r p ≤ gnO (rsD L C p r a b) r p)) 4 k.toNat (by omega) (by rw [decide_eq_false_iff_not, Int.toNat_of_nonneg h0]; omega)]; decide)))
      · refine zr_aload_n (pc := 35) dX2_isAtRest_35 rfl rfl ?_
        refine zr_getR (pc := 36) fX2_15 lo_43 rfl rfl dX2_isAtRest_36 ?_
        refine zr_iconst (pc := 39) dX2_isAtRest_39 ?_
        refine zr_iload_n (pc := 40) dX2_isAtRest_40 rfl rfl ?_
        refine zr_imul (pc := 41) dX2_isAtRest_41 ?_
        refine zr_iload (pc := 42) dX2_isAtRest_42 rfl ?_
        refine zr_iadd (pc := 44) dX2_isAtRest_44 ?_
        refine zr_iaload (pc := 45) lo_45 (by omega) dX2_isAtRest_45 ?_
        refine zr_aload_n (pc := 46) dX2_isAtRest_46 rfl rfl ?_
        refine zr_getR (pc := 47) fX2_15 lo_43 rfl rfl dX2_isAtRest_47 ?_
        refine zr_iload_n (pc := 50) dX2_isAtRest_50 rfl rfl ?_
        refine zr_iaload (pc := 51) lo_45 (by omega) dX2_isAtRest_51 ?_
        refine zi_icmp_le (pc := 52) (tgt := 57) dX2_isAtRest_52 (by decide) (by omega) (by omega) (fun h52 => ?_) (fun h52 => ?_)
        · refine zr_iinc (pc := 57) dX2_isAtRest_57 rfl (Nat.le_of_ble_eq_true rfl) rfl ?_
          refine zr_goto (pc := 60) (tgt := 9) dX2_isAtRest_60 (by decide) ?_
          exact ih _ (by omega) _ rfl (by omega) (by omega) (by rw [fo_s h0, hT, Bool.true_and, decide_eq_true_eq]; omega)
        · refine zr_iconst (pc := 55) dX2_isAtRest_55 ?_
          exact zr_zreturn (pc := 56) dX2_isAtRest_56 rfl (by decide) (zq_eq h (zb_F (by unfold rsR; rw [fo_false (f := fun g => decide (gnO (rsD L C p r g b) p r ≤ gnO (rsD L C p r a b) p r ∧ gnO (rsD L C p r a g) r p ≤ gnO (rsD L C p r a b) r p)) 4 k.toNat (by omega) (by rw [decide_eq_false_iff_not, Int.toNat_of_nonneg h0]; omega)]; decide)))

set_option maxRecDepth 100000 in
set_option maxHeartbeats 4000000 in
theorem ct_X2_isAtRest {g : zt_G} {M : zm_M} {q : Int → zm_M → Prop} {L : Ln} {C : Cm} {p r : Int} (hL : LW L) (hC : CW C) (hm : ∀ a b, 0 ≤ a → a < 4 → 0 ≤ b → b < 4 → M 44 (4 * a + b) = gnO (rsD L C p r a b) p r ∧ M 45 (4 * a + b) = gnO (rsD L C p r a b) r p) {a b : Int} (ha : 0 ≤ a ∧ a < 4) (hb : 0 ≤ b ∧ b < 4) (h : q (zb_B (rsR L C p r a b = true)) M) : zc_K g yX2_isAtRest mX2_isAtRest [zv_r 43, zv_i a, zv_i b] M (zq_I q) := by
  refine zc_of (ls := [some (zv_r 43), some (zv_i a), some (zv_i b), none, none]) (by decide) rfl ⟨rfl, rfl⟩ (Nat.le_of_ble_eq_true rfl) rfl ?_
  refine zr_iconst (pc := 0) dX2_isAtRest_0 ?_
  refine zr_iload_n (pc := 1) dX2_isAtRest_1 rfl rfl ?_
  refine zr_imul (pc := 2) dX2_isAtRest_2 ?_
  refine zr_iload_n (pc := 3) dX2_isAtRest_3 rfl rfl ?_
  refine zr_iadd (pc := 4) dX2_isAtRest_4 ?_
  refine zr_istore_n (pc := 5) dX2_isAtRest_5 rfl (Nat.le_of_ble_eq_true rfl) rfl ?_
  refine zr_iconst (pc := 6) dX2_isAtRest_6 ?_
  refine zr_istore (pc := 7) dX2_isAtRest_7 (Nat.le_of_ble_eq_true rfl) rfl ?_
  exact lp_X2_isAtRest hL hC hm ha hb h _ _ rfl (by omega) (by omega) rfl

theorem rsP_in (L : Ln) (C : Cm) (p r : Int) : ∀ n : Nat, 0 ≤ (rsP L C p r n).1 ∧ (rsP L C p r n).1 ≤ n
  | 0 => ⟨Int.le_refl 0, Int.le_refl 0⟩
  | n + 1 => by
    have h := rsP_in L C p r n
    have e : (rsP L C p r (n + 1)) = rsF L C p r (n : Int) (rsP L C p r n) := rfl
    rw [e]
    unfold rsF
    split
    · dsimp only
      omega
    · omega
set_option maxRecDepth 100000 in
set_option maxHeartbeats 4000000 in
theorem lp_X2_play4 {g : zt_G} {M : zm_M} {q : zm_M → Prop} {L : Ln} {C : Cm} {p r : Int} (hl : lvX M 13 = L) (hc : cvX M 17 = C) (hL : LW L) (hC : CW C) (hp : cHas C p) (hr : cHas C r) (h : ∀ M2, (∀ (k : Nat) (i : Int), (k < 22 ∨ (26 < k ∧ k < 43) ∨ 45 < k) → M2 k i = M k i) → (M2 43 2, M2 43 3) = rsP L C p r 16 → q M2) {a : Int} (ha : 0 ≤ a ∧ a < 4) (ho : ∀ (x7 : Option zv_A) (Mx : zm_M), (∀ (k : Nat) (i : Int), (k < 22 ∨ (26 < k ∧ k < 43) ∨ 45 < k) → Mx k i = M k i) → (∀ a b, 0 ≤ a → a < 4 → 0 ≤ b → b < 4 → Mx 44 (4 * a + b) = gnO (rsD L C p r a b) p r ∧ Mx 45 (4 * a + b) = gnO (rsD L C p r a b) r p) → (Mx 43 2, Mx 43 3) = rsP L C p r (4 * (a + 1)).toNat → zc_Z g mX2_play 113 [some (zv_r 43), some (zv_r 17), some (zv_r 22), some (zv_r 13), some (zv_i p), some (zv_i r), some (zv_i (a + 1)), x7] [] Mx (zq_V q)) : ∀ (nn : Nat) (b : Int) (Mx : zm_M), (4 - b).toNat = nn → 0 ≤ b → b ≤ 4 → (∀ (k : Nat) (i : Int), (k < 22 ∨ (26 < k ∧ k < 43) ∨ 45 < k) → Mx k i = M k i) → (∀ a b, 0 ≤ a → a < 4 → 0 ≤ b → b < 4 → Mx 44 (4 * a + b) = gnO (rsD L C p r a b) p r ∧ Mx 45 (4 * a + b) = gnO (rsD L C p r a b) r p) → (Mx 43 2, Mx 43 3) = rsP L C p r (4 * a + b).toNat → zc_Z g mX2_play 122 [some (zv_r 43), some (zv_r 17), some (zv_r 22), some (zv_r 13), some (zv_i p), some (zv_i r), some (zv_i a), some (zv_i b)] [] Mx (zq_V q) := by
  intro nn
  induction nn using Nat.strongRecOn with
  | ind nn ih =>
    intro b Mx hnn h0 h1 hfr hm hP
    have hin := rsP_in L C p r (4 * a + b).toNat
    rw [← hP] at hin
    dsimp only at hin
    refine zr_iload (pc := 122) dX2_play_122 rfl ?_
    refine zr_iconst (pc := 124) dX2_play_124 ?_
    refine zi_icmp_ge (pc := 125) (tgt := 181) dX2_play_125 (by decide) (by omega) (by omega) (fun h125 => ?_) (fun h125 => ?_)
    · refine zr_iinc (pc := 181) dX2_play_181 rfl (Nat.le_of_ble_eq_true rfl) rfl ?_
      refine zr_goto (pc := 184) (tgt := 113) dX2_play_184 (by decide) ?_
      exact ho _ _ hfr hm (by rw [hP, show b = 4 by omega]; congr 1; omega)
    · have hst : rsP L C p r (4 * a + (b + 1)).toNat = rsF L C p r (4 * a + b) (Mx 43 2, Mx 43 3) := by
        rw [hP, show 4 * a + (b + 1) = (4 * a + b) + 1 by omega]
        unfold rsP
        rw [fo_s (by omega)]
      unfold rsF at hst
      rw [show (4 * a + b) / 4 = a by omega, show (4 * a + b) % 4 = b by omega] at hst
      dsimp only at hst
      refine zr_aload_n (pc := 128) dX2_play_128 rfl rfl ?_
      refine zr_iload (pc := 129) dX2_play_129 rfl ?_
      refine zr_iload (pc := 131) dX2_play_131 rfl ?_
      refine zr_inv2I (pc := 133) rfl sX2_43 lo_43 rfl rfl rfl dX2_play_133 ?_
      refine ct_X2_isAtRest hL hC hm ha ⟨h0, by omega⟩ ?_
      refine zr_ifb_eq (pc := 136) (tgt := 175) dX2_play_136 (by decide) (fun h136 => ?_) (fun h136 => ?_)
      · refine zr_iinc (pc := 175) dX2_play_175 rfl (Nat.le_of_ble_eq_true rfl) rfl ?_
        refine zr_goto (pc := 178) (tgt := 122) dX2_play_178 (by decide) ?_
        rw [if_neg h136] at hst
        exact ih _ (by omega) _ _ rfl (by omega) (by omega) hfr hm hst.symm
      · refine zr_aload_n (pc := 139) dX2_play_139 rfl rfl ?_
        refine zr_aload_n (pc := 140) dX2_play_140 rfl rfl ?_
        refine zr_getI (pc := 141) (z := 2) fX2_18 lo_43 rfl rfl rfl dX2_play_141 ?_
        refine zi_if_ne (pc := 144) (tgt := 158) dX2_play_144 (by decide) (by omega) (fun h144 => ?_) (fun h144 => ?_)
        · refine zr_aload_n (pc := 158) dX2_play_158 rfl rfl ?_
          refine zr_getI (pc := 159) (z := 3) fX2_22 lo_43 rfl rfl rfl dX2_play_159 ?_
          refine zr_putI (pc := 162) (z := 3) fX2_22 lo_43 rfl fwX2_3 rfl rfl dX2_play_162 ?_
          refine zr_aload_n (pc := 165) dX2_play_165 rfl rfl ?_
          refine zr_dup_r (pc := 166) dX2_play_166 ?_
          refine zr_getI (pc := 167) (z := 2) fX2_18 lo_43 rfl rfl rfl dX2_play_167 ?_
          rw [put_ni _ _ (by decide)]
          refine zr_iconst (pc := 170) dX2_play_170 ?_
          refine zr_iadd (pc := 171) dX2_play_171 ?_
          refine zr_putI (pc := 172) (z := 2) fX2_18 lo_43 rfl fwX2_2 rfl rfl dX2_play_172 ?_
          refine zr_iinc (pc := 175) dX2_play_175 rfl (Nat.le_of_ble_eq_true rfl) rfl ?_
          refine zr_goto (pc := 178) (tgt := 122) dX2_play_178 (by decide) ?_
          rw [if_pos h136, if_neg h144] at hst
          exact ih _ (by omega) _ _ rfl (by omega) (by omega) (fun k i a => by rw [put_nk _ _ _ _ (by omega), put_nk _ _ _ _ (by omega)]; exact hfr k i a) (fun x y u1 u2 u3 u4 => by rw [put_nk _ _ _ _ (by decide), put_nk _ _ _ _ (by decide), put_nk _ _ _ _ (by decide), put_nk _ _ _ _ (by decide)]; exact hm x y u1 u2 u3 u4) (by rw [hst, put_at, put_ni _ _ (show (3 : Int) ≠ 2 by decide), put_at])
        · refine zr_bipush (pc := 147) dX2_play_147 (by decide) ?_
          refine zr_iload (pc := 149) dX2_play_149 rfl ?_
          refine zr_imul (pc := 151) dX2_play_151 ?_
          refine zr_iload (pc := 152) dX2_play_152 rfl ?_
          refine zr_iadd (pc := 154) dX2_play_154 ?_
          refine zr_goto (pc := 155) (tgt := 162) dX2_play_155 (by decide) ?_
          refine zr_putI (pc := 162) (z := 3) fX2_22 lo_43 rfl fwX2_3 rfl rfl dX2_play_162 ?_
          refine zr_aload_n (pc := 165) dX2_play_165 rfl rfl ?_
          refine zr_dup_r (pc := 166) dX2_play_166 ?_
          refine zr_getI (pc := 167) (z := 2) fX2_18 lo_43 rfl rfl rfl dX2_play_167 ?_
          rw [put_ni _ _ (by decide)]
          refine zr_iconst (pc := 170) dX2_play_170 ?_
          refine zr_iadd (pc := 171) dX2_play_171 ?_
          refine zr_putI (pc := 172) (z := 2) fX2_18 lo_43 rfl fwX2_2 rfl rfl dX2_play_172 ?_
          refine zr_iinc (pc := 175) dX2_play_175 rfl (Nat.le_of_ble_eq_true rfl) rfl ?_
          refine zr_goto (pc := 178) (tgt := 122) dX2_play_178 (by decide) ?_
          rw [if_pos h136, if_pos h144] at hst
          exact ih _ (by omega) _ _ rfl (by omega) (by omega) (fun k i a => by rw [put_nk _ _ _ _ (by omega), put_nk _ _ _ _ (by omega)]; exact hfr k i a) (fun x y u1 u2 u3 u4 => by rw [put_nk _ _ _ _ (by decide), put_nk _ _ _ _ (by decide), put_nk _ _ _ _ (by decide), put_nk _ _ _ _ (by decide)]; exact hm x y u1 u2 u3 u4) (by rw [hst, put_at, put_ni _ _ (show (3 : Int) ≠ 2 by decide), put_at])

set_option maxRecDepth 100000 in
set_option maxHeartbeats 4000000 in
theorem lp_X2_play3 {g : zt_G} {M : zm_M} {q : zm_M → Prop} {L : Ln} {C : Cm} {p r : Int} (hl : lvX M 13 = L) (hc : cvX M 17 = C) (hL : LW L) (hC : CW C) (hp : cHas C p) (hr : cHas C r) (h : ∀ M2, (∀ (k : Nat) (i : Int), (k < 22 ∨ (26 < k ∧ k < 43) ∨ 45 < k) → M2 k i = M k i) → (M2 43 2, M2 43 3) = rsP L C p r 16 → q M2) : ∀ (nn : Nat) (a : Int) (x7 : Option zv_A) (Mx : zm_M), (4 - a).toNat = nn → 0 ≤ a → a ≤ 4 → (∀ (k : Nat) (i : Int), (k < 22 ∨ (26 < k ∧ k < 43) ∨ 45 < k) → Mx k i = M k i) → (∀ a b, 0 ≤ a → a < 4 → 0 ≤ b → b < 4 → Mx 44 (4 * a + b) = gnO (rsD L C p r a b) p r ∧ Mx 45 (4 * a + b) = gnO (rsD L C p r a b) r p) → (Mx 43 2, Mx 43 3) = rsP L C p r (4 * a).toNat → zc_Z g mX2_play 113 [some (zv_r 43), some (zv_r 17), some (zv_r 22), some (zv_r 13), some (zv_i p), some (zv_i r), some (zv_i a), x7] [] Mx (zq_V q) := by
  intro nn
  induction nn using Nat.strongRecOn with
  | ind nn ih =>
    intro a x7 Mx hnn h0 h1 hfr hm hP
    refine zr_iload (pc := 113) dX2_play_113 rfl ?_
    refine zr_iconst (pc := 115) dX2_play_115 ?_
    refine zi_icmp_ge (pc := 116) (tgt := 187) dX2_play_116 (by decide) (by omega) (by omega) (fun h116 => ?_) (fun h116 => ?_)
    · exact zr_return (pc := 187) dX2_play_187 rfl (h _ hfr (by rw [hP, show a = 4 by omega]; rfl))
    · refine zr_iconst (pc := 119) dX2_play_119 ?_
      refine zr_istore (pc := 120) dX2_play_120 (Nat.le_of_ble_eq_true rfl) rfl ?_
      exact lp_X2_play4 (g := g) hl hc hL hC hp hr h ⟨h0, by omega⟩ (fun y7 My f1 f2 f3 => ih _ (by omega) _ y7 My rfl (by omega) (by omega) f1 f2 f3) _ _ _ rfl (by omega) (by omega) hfr hm (by rw [Int.add_zero]; exact hP)

set_option maxRecDepth 100000 in
set_option maxHeartbeats 4000000 in
theorem lp_X2_play2 {g : zt_G} {M : zm_M} {q : zm_M → Prop} {L : Ln} {C : Cm} {p r : Int} (hl : lvX M 13 = L) (hc : cvX M 17 = C) (hL : LW L) (hC : CW C) (hp : cHas C p) (hr : cHas C r) (h : ∀ M2, (∀ (k : Nat) (i : Int), (k < 22 ∨ (26 < k ∧ k < 43) ∨ 45 < k) → M2 k i = M k i) → (M2 43 2, M2 43 3) = rsP L C p r 16 → q M2) {a : Int} (ha : 0 ≤ a ∧ a < 4) (ho : ∀ (x7 : Option zv_A) (Mx : zm_M), (∀ (k : Nat) (i : Int), (k < 22 ∨ (26 < k ∧ k < 43) ∨ 45 < k) → Mx k i = M k i) → (∀ x y, 0 ≤ x → x < 4 → 0 ≤ y → y < 4 → 4 * x + y < 4 * (a + 1) → Mx 44 (4 * x + y) = gnO (rsD L C p r x y) p r ∧ Mx 45 (4 * x + y) = gnO (rsD L C p r x y) r p) → zc_Z g mX2_play 3 [some (zv_r 43), some (zv_r 17), some (zv_r 22), some (zv_r 13), some (zv_i p), some (zv_i r), some (zv_i (a + 1)), x7] [] Mx (zq_V q)) : ∀ (nn : Nat) (b : Int) (Mx : zm_M), (4 - b).toNat = nn → 0 ≤ b → b ≤ 4 → (∀ (k : Nat) (i : Int), (k < 22 ∨ (26 < k ∧ k < 43) ∨ 45 < k) → Mx k i = M k i) → (∀ x y, 0 ≤ x → x < 4 → 0 ≤ y → y < 4 → 4 * x + y < 4 * a + b → Mx 44 (4 * x + y) = gnO (rsD L C p r x y) p r ∧ Mx 45 (4 * x + y) = gnO (rsD L C p r x y) r p) → zc_Z g mX2_play 12 [some (zv_r 43), some (zv_r 17), some (zv_r 22), some (zv_r 13), some (zv_i p), some (zv_i r), some (zv_i a), some (zv_i b)] [] Mx (zq_V q) := by
  intro nn
  induction nn using Nat.strongRecOn with
  | ind nn ih =>
    intro b Mx hnn h0 h1 hfr hm
    have hlx : lvX Mx 13 = L := by rw [lvX_fr (fun k i a b => hfr k i (by omega)), hl]
    have hcx : cvX Mx 17 = C := by rw [cvX_fr (fun k i a b => hfr k i (by omega)), hc]
    have hcw : CW (cvX Mx 17) := by rw [hcx]; exact hC
    have hp4 := hp
    have hr4 := hr
    have hct := hC.1
    refine zr_iload (pc := 12) dX2_play_12 rfl ?_
    refine zr_iconst (pc := 14) dX2_play_14 ?_
    refine zi_icmp_ge (pc := 15) (tgt := 93) dX2_play_15 (by decide) (by omega) (by omega) (fun h15 => ?_) (fun h15 => ?_)
    · refine zr_iinc (pc := 93) dX2_play_93 rfl (Nat.le_of_ble_eq_true rfl) rfl ?_
      refine zr_goto (pc := 96) (tgt := 3) dX2_play_96 (by decide) ?_
      exact ho _ _ hfr (fun x y u1 u2 u3 u4 u5 => hm x y u1 u2 u3 u4 (by omega))
    · refine zr_aload_n (pc := 18) dX2_play_18 rfl rfl ?_
      refine zr_aload_n (pc := 19) dX2_play_19 rfl rfl ?_
      refine zr_inv1V (pc := 20) rfl sX2_25 zp_c22.1 rfl rfl rfl dX2_play_20 ?_
      refine ct_X1_copyFrom zp_c22 zp_c17 (Or.inl (by decide)) hcw (fun M1 hf1 hv1 => ?_)
      rw [hcx] at hv1
      have hl1 : lvX M1 13 = L := by rw [lvX_fr (fun k i a b => hf1 k i (by omega)), hlx]
      refine zr_aload_n (pc := 23) dX2_play_23 rfl rfl ?_
      refine zr_aload_n (pc := 24) dX2_play_24 rfl rfl ?_
      refine zr_iload (pc := 25) dX2_play_25 rfl ?_
      refine zr_iload (pc := 27) dX2_play_27 rfl ?_
      refine zr_stat4V (pc := 29) rfl sX2_31 rfl rfl dX2_play_29 ?_
      refine ct_X2_goToKiln (by rw [hv1]; exact hC) (by rw [hl1]; exact hL) (by omega) (by omega) (fun M2 hf2 hv2 => ?_)
      rw [hl1, hv1] at hv2
      have hl2 : lvX M2 13 = L := by rw [lvX_fr (fun k i a b => hf2 k i (by omega)), hl1]
      have hg1 := CW_goK (t := p) (g := a) hL hC
      refine zr_aload_n (pc := 32) dX2_play_32 rfl rfl ?_
      refine zr_aload_n (pc := 33) dX2_play_33 rfl rfl ?_
      refine zr_iload (pc := 34) dX2_play_34 rfl ?_
      refine zr_iload (pc := 36) dX2_play_36 rfl ?_
      refine zr_stat4V (pc := 38) rfl sX2_31 rfl rfl dX2_play_38 ?_
      refine ct_X2_goToKiln (by rw [hv2]; exact hg1.1) (by rw [hl2]; exact hL) (by omega) (by omega) (fun M3 hf3 hv3 => ?_)
      rw [hl2, hv2] at hv3
      have hl3 : lvX M3 13 = L := by rw [lvX_fr (fun k i a b => hf3 k i (by omega)), hl2]
      have hg2 := CW_goK (t := r) (g := b) hL hg1.1
      refine zr_aload_n (pc := 41) dX2_play_41 rfl rfl ?_
      refine zr_aload_n (pc := 42) dX2_play_42 rfl rfl ?_
      refine zr_iconst (pc := 43) dX2_play_43 ?_
      refine zr_inv2V (pc := 44) rfl sX2_35 zp_c22.1 rfl rfl rfl dX2_play_44 ?_
      refine ct_X1_passNight zp_c22 zp_l13 (Or.inl (by decide)) (by rw [hv3]; exact hg2.1) (by rw [hl3]; exact hL) ⟨by decide, by decide⟩ (fun M4 hf4 hv4 => ?_)
      have hv5 : cvX M4 22 = rsD L C p r a b := by rw [hv4, hl3, hv3]; rfl
      have hrs := CW_rsD (p := p) (r := r) (a := a) (b := b) hL hC
      have hcw5 : CW (cvX M4 22) := by rw [hv5]; exact hrs.1
      have hp5 : cHas (cvX M4 22) p := by
        rw [hv5]
        exact ⟨hp4.1, by rw [hrs.2]; exact hp4.2⟩
      have hr5 : cHas (cvX M4 22) r := by
        rw [hv5]
        exact ⟨hr4.1, by rw [hrs.2]; exact hr4.2⟩
      refine zr_aload_n (pc := 47) dX2_play_47 rfl rfl ?_
      refine zr_getR (pc := 48) fX2_11 lo_43 rfl rfl dX2_play_48 ?_
      refine zr_iconst (pc := 51) dX2_play_51 ?_
      refine zr_iload (pc := 52) dX2_play_52 rfl ?_
      refine zr_imul (pc := 54) dX2_play_54 ?_
      refine zr_iload (pc := 55) dX2_play_55 rfl ?_
      refine zr_iadd (pc := 57) dX2_play_57 ?_
      refine zr_aload_n (pc := 58) dX2_play_58 rfl rfl ?_
      refine zr_iload (pc := 59) dX2_play_59 rfl ?_
      refine zr_iload (pc := 61) dX2_play_61 rfl ?_
      refine zr_stat3I (pc := 63) rfl sX2_39 rfl rfl dX2_play_63 ?_
      refine ct_X2_gainOf hcw5 hp5 hr5 ?_
      have hv6 : cvX (zm_put M4 44 (4 * a + b) (gnO (cvX M4 22) p r)) 22 = cvX M4 22 := cvX_fr (fun k i x y => put_nk _ _ _ _ (by omega))
      refine zr_iastore (pc := 66) lo_44 (by omega) dX2_play_66 ?_
      refine zr_aload_n (pc := 67) dX2_play_67 rfl rfl ?_
      refine zr_getR (pc := 68) fX2_15 lo_43 rfl rfl dX2_play_68 ?_
      refine zr_iconst (pc := 71) dX2_play_71 ?_
      refine zr_iload (pc := 72) dX2_play_72 rfl ?_
      refine zr_imul (pc := 74) dX2_play_74 ?_
      refine zr_iload (pc := 75) dX2_play_75 rfl ?_
      refine zr_iadd (pc := 77) dX2_play_77 ?_
      refine zr_aload_n (pc := 78) dX2_play_78 rfl rfl ?_
      refine zr_iload (pc := 79) dX2_play_79 rfl ?_
      refine zr_iload (pc := 81) dX2_play_81 rfl ?_
      refine zr_stat3I (pc := 83) rfl sX2_39 rfl rfl dX2_play_83 ?_
      refine ct_X2_gainOf (by rw [hv6]; exact hcw5) (by rw [hv6]; exact hr5) (by rw [hv6]; exact hp5) ?_
      rw [hv6]
      refine zr_iastore (pc := 86) lo_45 (by omega) dX2_play_86 ?_
      refine zr_iinc (pc := 87) dX2_play_87 rfl (Nat.le_of_ble_eq_true rfl) rfl ?_
      refine zr_goto (pc := 90) (tgt := 12) dX2_play_90 (by decide) ?_
      exact ih _ (by omega) _ _ rfl (by omega) (by omega) (fun k i x => by rw [put_nk _ _ _ _ (by omega), put_nk _ _ _ _ (by omega), hf4 k i (by omega), hf3 k i (by omega), hf2 k i (by omega), hf1 k i (by omega)]; exact hfr k i x) (fun x y u1 u2 u3 u4 u5 => by
        rw [put_nk _ _ _ _ (show 44 ≠ 45 by decide)]
        by_cases hxy : 4 * x + y = 4 * a + b
        · have ex : x = a := by omega
          have ey : y = b := by omega
          subst ex
          subst ey
          rw [put_at, put_at, hv5]
          exact ⟨rfl, rfl⟩
        · rw [put_ni _ _ hxy, put_ni _ _ hxy, put_nk _ _ _ _ (show 45 ≠ 44 by decide), hf4 44 _ (by decide), hf3 44 _ (by decide), hf2 44 _ (by decide), hf1 44 _ (by decide), hf4 45 _ (by decide), hf3 45 _ (by decide), hf2 45 _ (by decide), hf1 45 _ (by decide)]
          exact hm x y u1 u2 u3 u4 (by omega))

set_option maxRecDepth 100000 in
set_option maxHeartbeats 4000000 in
theorem lp_X2_play1 {g : zt_G} {M : zm_M} {q : zm_M → Prop} {L : Ln} {C : Cm} {p r : Int} (hl : lvX M 13 = L) (hc : cvX M 17 = C) (hL : LW L) (hC : CW C) (hp : cHas C p) (hr : cHas C r) (h : ∀ M2, (∀ (k : Nat) (i : Int), (k < 22 ∨ (26 < k ∧ k < 43) ∨ 45 < k) → M2 k i = M k i) → (M2 43 2, M2 43 3) = rsP L C p r 16 → q M2) : ∀ (nn : Nat) (a : Int) (x7 : Option zv_A) (Mx : zm_M), (4 - a).toNat = nn → 0 ≤ a → a ≤ 4 → (∀ (k : Nat) (i : Int), (k < 22 ∨ (26 < k ∧ k < 43) ∨ 45 < k) → Mx k i = M k i) → (∀ x y, 0 ≤ x → x < 4 → 0 ≤ y → y < 4 → 4 * x + y < 4 * a → Mx 44 (4 * x + y) = gnO (rsD L C p r x y) p r ∧ Mx 45 (4 * x + y) = gnO (rsD L C p r x y) r p) → zc_Z g mX2_play 3 [some (zv_r 43), some (zv_r 17), some (zv_r 22), some (zv_r 13), some (zv_i p), some (zv_i r), some (zv_i a), x7] [] Mx (zq_V q) := by
  intro nn
  induction nn using Nat.strongRecOn with
  | ind nn ih =>
    intro a x7 Mx hnn h0 h1 hfr hm
    refine zr_iload (pc := 3) dX2_play_3 rfl ?_
    refine zr_iconst (pc := 5) dX2_play_5 ?_
    refine zi_icmp_ge (pc := 6) (tgt := 99) dX2_play_6 (by decide) (by omega) (by omega) (fun h6 => ?_) (fun h6 => ?_)
    · refine zr_aload_n (pc := 99) dX2_play_99 rfl rfl ?_
      refine zr_iconst (pc := 100) dX2_play_100 ?_
      refine zr_putI (pc := 101) (z := 2) fX2_18 lo_43 rfl fwX2_2 rfl rfl dX2_play_101 ?_
      refine zr_aload_n (pc := 104) dX2_play_104 rfl rfl ?_
      refine zr_bipush (pc := 105) dX2_play_105 (by decide) ?_
      refine zr_putI (pc := 107) (z := 3) fX2_22 lo_43 rfl fwX2_3 rfl rfl dX2_play_107 ?_
      refine zr_iconst (pc := 110) dX2_play_110 ?_
      refine zr_istore (pc := 111) dX2_play_111 (Nat.le_of_ble_eq_true rfl) rfl ?_
      exact lp_X2_play3 (g := g) hl hc hL hC hp hr h _ _ _ _ rfl (by omega) (by omega) (fun k i x => by rw [put_nk _ _ _ _ (by omega), put_nk _ _ _ _ (by omega)]; exact hfr k i x) (fun x y u1 u2 u3 u4 => by rw [put_nk _ _ _ _ (by decide), put_nk _ _ _ _ (by decide), put_nk _ _ _ _ (by decide), put_nk _ _ _ _ (by decide)]; exact hm x y u1 u2 u3 u4 (by omega)) (by rw [put_at, put_ni _ _ (show (2 : Int) ≠ 3 by decide), put_at]; rfl)
    · refine zr_iconst (pc := 9) dX2_play_9 ?_
      refine zr_istore (pc := 10) dX2_play_10 (Nat.le_of_ble_eq_true rfl) rfl ?_
      exact lp_X2_play2 (g := g) hl hc hL hC hp hr h ⟨h0, by omega⟩ (fun y7 My f1 f2 => ih _ (by omega) _ y7 My rfl (by omega) (by omega) f1 f2) _ _ _ rfl (by omega) (by omega) hfr (by rw [Int.add_zero]; exact hm)

set_option maxRecDepth 100000 in
set_option maxHeartbeats 4000000 in
theorem ct_X2_play {g : zt_G} {M : zm_M} {q : zm_M → Prop} {L : Ln} {C : Cm} {p r : Int} (hl : lvX M 13 = L) (hc : cvX M 17 = C) (hL : LW L) (hC : CW C) (hp : cHas C p) (hr : cHas C r) (h : ∀ M2, (∀ (k : Nat) (i : Int), (k < 22 ∨ (26 < k ∧ k < 43) ∨ 45 < k) → M2 k i = M k i) → (M2 43 2, M2 43 3) = rsP L C p r 16 → q M2) : zc_K g yX2_play mX2_play [zv_r 43, zv_r 17, zv_r 22, zv_r 13, zv_i p, zv_i r] M (zq_V q) := by
  refine zc_of (ls := [some (zv_r 43), some (zv_r 17), some (zv_r 22), some (zv_r 13), some (zv_i p), some (zv_i r), none, none]) (by decide) rfl ⟨rfl, rfl⟩ (Nat.le_of_ble_eq_true rfl) rfl ?_
  refine zr_iconst (pc := 0) dX2_play_0 ?_
  refine zr_istore (pc := 1) dX2_play_1 (Nat.le_of_ble_eq_true rfl) rfl ?_
  exact lp_X2_play1 (g := g) hl hc hL hC hp hr h _ _ _ _ rfl (by omega) (by omega) (fun _ _ _ => rfl) (fun x y u1 u2 u3 u4 u5 => by omega)

set_option maxRecDepth 100000 in
set_option maxHeartbeats 4000000 in
theorem ct_X10_rests {g : zt_G} {M : zm_M} {σ : Sg} {q : Int → zm_M → Prop} (hR : RX σ M) (hW : SW σ) {p r v : Int} (hp : zi p) (hr : zi r) (hv : zi v) (h : ∀ M2, frX M M2 → RX σ M2 → q (aRests p r v (sL σ) (sC σ)) M2) : zc_K g yX10_rests mX10_rests [zv_r 0, zv_i p, zv_i r, zv_i v] M (zq_I q) := by
  refine zc_of (ls := [some (zv_r 0), some (zv_i p), some (zv_i r), some (zv_i v)]) (by decide) rfl ⟨rfl, rfl⟩ (Nat.le_of_ble_eq_true rfl) rfl ?_
  obtain ⟨hT, hl, hcv, hA, hK, hS, hD⟩ := id hR
  obtain ⟨wT, wTx, wL, ⟨wC, wZ⟩, wA, wK, wS⟩ := id hW
  have hLw : LW (lvX M 13) := by rw [hl]; exact wL
  have hCw : CW (cvX M 17) := by rw [hcv]; exact wC
  have hw0 := wXt hCw
  have hL0 := yXk hLw
  have hk1 : M 13 3 = (sL σ).1 := by rw [← hl]; rfl
  have ht1 : M 17 5 = ct (sC σ) := by rw [← hcv]; rfl
  have hT1 := hT.1
  refine zr_aload_n (pc := 0) dX10_rests_0 rfl rfl ?_
  refine zr_getR (pc := 1) fX10_33 lo_0 rfl rfl dX10_rests_1 ?_
  refine zr_iload_n (pc := 4) dX10_rests_4 rfl rfl ?_
  refine zr_inv1I (pc := 5) rfl sX10_138 lo_17 rfl rfl rfl dX10_rests_5 ?_
  refine ct_X1_has zp_c17 hCw hp ?_
  rw [hcv]
  refine zr_ifb_eq (pc := 8) (tgt := 22) dX10_rests_8 (by decide) (fun h8 => ?_) (fun h8 => ?_)
  · refine zr_iconst (pc := 22) dX10_rests_22 ?_
    exact zr_ireturn (pc := 23) dX10_rests_23 rfl (zq_eq (h M (fun _ _ _ => rfl) hR) (by unfold aRests; rw [if_pos (Or.inl h8)]))
  · refine zr_aload_n (pc := 11) dX10_rests_11 rfl rfl ?_
    refine zr_getR (pc := 12) fX10_33 lo_0 rfl rfl dX10_rests_12 ?_
    refine zr_iload_n (pc := 15) dX10_rests_15 rfl rfl ?_
    refine zr_inv1I (pc := 16) rfl sX10_138 lo_17 rfl rfl rfl dX10_rests_16 ?_
    refine ct_X1_has zp_c17 hCw hr ?_
    rw [hcv]
    refine zr_ifb_ne (pc := 19) (tgt := 24) dX10_rests_19 (by decide) (fun h19 => ?_) (fun h19 => ?_)
    · refine zr_iload_n (pc := 24) dX10_rests_24 rfl rfl ?_
      refine zr_iload_n (pc := 25) dX10_rests_25 rfl rfl ?_
      refine zi_icmp_eq (pc := 26) (tgt := 36) dX10_rests_26 (by decide) (by omega) (by omega) (fun h26 => ?_) (fun h26 => ?_)
      · refine zr_bipush (pc := 36) dX10_rests_36 (by decide) ?_
        exact zr_ireturn (pc := 38) dX10_rests_38 rfl (zq_eq (h M (fun _ _ _ => rfl) hR) (by unfold aRests; rw [if_neg (fun y => y.elim (fun z => z h8) (fun z => z h19)), if_pos (Or.inl h26)]))
      · refine zr_iload_n (pc := 29) dX10_rests_29 rfl rfl ?_
        refine zr_stat1I (pc := 30) rfl sX10_211 rfl rfl dX10_rests_30 ?_
        refine ct_X10_isFirstOrSecond hv ?_
        refine zr_ifb_ne (pc := 33) (tgt := 39) dX10_rests_33 (by decide) (fun h33 => ?_) (fun h33 => ?_)
        · refine zr_aload_n (pc := 39) dX10_rests_39 rfl rfl ?_
          refine zr_getR (pc := 40) fX10_78 lo_0 rfl rfl dX10_rests_40 ?_
          refine zr_aload_n (pc := 43) dX10_rests_43 rfl rfl ?_
          refine zr_getR (pc := 44) fX10_33 lo_0 rfl rfl dX10_rests_44 ?_
          refine zr_aload_n (pc := 47) dX10_rests_47 rfl rfl ?_
          refine zr_getR (pc := 48) fX10_37 lo_0 rfl rfl dX10_rests_48 ?_
          refine zr_aload_n (pc := 51) dX10_rests_51 rfl rfl ?_
          refine zr_getR (pc := 52) fX10_26 lo_0 rfl rfl dX10_rests_52 ?_
          refine zr_iload_n (pc := 55) dX10_rests_55 rfl rfl ?_
          refine zr_iload_n (pc := 56) dX10_rests_56 rfl rfl ?_
          refine zr_inv5V (pc := 57) rfl sX10_274 lo_43 rfl rfl rfl dX10_rests_57 ?_
          refine ct_X2_play hl hcv wL wC h8 h19 (fun M2 hf2 hv2 => ?_)
          refine zr_iload_n (pc := 60) dX10_rests_60 rfl rfl ?_
          refine zi_if_ne (pc := 61) (tgt := 74) dX10_rests_61 (by decide) (by omega) (fun h61 => ?_) (fun h61 => ?_)
          · refine zr_aload_n (pc := 74) dX10_rests_74 rfl rfl ?_
            refine zr_getR (pc := 75) fX10_78 lo_0 rfl rfl dX10_rests_75 ?_
            refine zr_getI (pc := 78) (z := 3) fX10_279 lo_43 rfl rfl rfl dX10_rests_78 ?_
            exact zr_ireturn (pc := 81) dX10_rests_81 rfl (zq_eq (h M2 (fun k i a => hf2 k i (by omega)) (RX_frs hR (fun k i a b => hf2 k i (by unfold zsc at b; omega)))) (by unfold aRests; rw [if_neg (fun y => y.elim (fun z => z h8) (fun z => z h19)), if_neg (fun y => y.elim (fun z => h26 z) (fun z => z h33)), if_neg h61, ← hv2]))
          · refine zr_aload_n (pc := 64) dX10_rests_64 rfl rfl ?_
            refine zr_getR (pc := 65) fX10_78 lo_0 rfl rfl dX10_rests_65 ?_
            refine zr_getI (pc := 68) (z := 2) fX10_278 lo_43 rfl rfl rfl dX10_rests_68 ?_
            refine zr_goto (pc := 71) (tgt := 81) dX10_rests_71 (by decide) ?_
            exact zr_ireturn (pc := 81) dX10_rests_81 rfl (zq_eq (h M2 (fun k i a => hf2 k i (by omega)) (RX_frs hR (fun k i a b => hf2 k i (by unfold zsc at b; omega)))) (by unfold aRests; rw [if_neg (fun y => y.elim (fun z => z h8) (fun z => z h19)), if_neg (fun y => y.elim (fun z => h26 z) (fun z => z h33)), if_pos h61, ← hv2]))
        · refine zr_bipush (pc := 36) dX10_rests_36 (by decide) ?_
          exact zr_ireturn (pc := 38) dX10_rests_38 rfl (zq_eq (h M (fun _ _ _ => rfl) hR) (by unfold aRests; rw [if_neg (fun y => y.elim (fun z => z h8) (fun z => z h19)), if_pos (Or.inr h33)]))
    · refine zr_iconst (pc := 22) dX10_rests_22 ?_
      exact zr_ireturn (pc := 23) dX10_rests_23 rfl (zq_eq (h M (fun _ _ _ => rfl) hR) (by unfold aRests; rw [if_pos (Or.inr h19)]))

