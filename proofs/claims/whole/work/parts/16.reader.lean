def cAdT (p k : Int) (C : Cm) : Cm := (upI (cp C) (ct C) p, upI (ck C) (ct C) k, upI (cn C) (ct C) 0, upI (ch C) (ct C) 0, cw C, ct C + 1, cg C)
def cO : Cm := (fun _ => 0, fun _ => 0, fun _ => 0, fun _ => 0, 0, 0, 0)
def lO : Ln := (0, fun _ => 0, fun _ => 0, fun _ _ => 0)
theorem msk_0 (f : Int → Int) : msk 0 f = fun _ => 0 := by
  funext i
  unfold msk
  rw [if_neg (by omega)]
theorem lvX_0 {M : zm_M} {l : Nat} (h : M l 3 = 0) : lvX M l = lO := by
  unfold lvX lyX
  rw [h, msk_0, msk_0]
  refine Prod.ext rfl (Prod.ext rfl (Prod.ext rfl ?_))
  funext g k
  show (if _ then _ else _) = _
  rw [if_neg (by omega)]
  rfl
theorem cvX_0 {M : zm_M} {c : Nat} (h4 : M c 4 = 0) (h5 : M c 5 = 0) (h6 : M c 6 = 0) : cvX M c = cO := by
  unfold cvX cO
  rw [h4, h5, h6, msk_0, msk_0, msk_0, msk_0]
theorem CW_0 : CW cO := ⟨⟨by decide, by decide⟩, ⟨by decide, by decide⟩, fun t => ⟨(by decide : (0 : Int) ≤ 0 ∧ (0 : Int) ≤ 9), (by decide : (0 : Int) ≤ 0 ∧ (0 : Int) ≤ 3), (by decide : (0 : Int) ≤ 0 ∧ (0 : Int) < 64), (by decide : (0 : Int) ≤ 0 ∧ (0 : Int) ≤ 9)⟩⟩
theorem LW_0 : LW lO := ⟨⟨by decide, by decide⟩, fun g => ⟨(by decide : (0 : Int) ≤ 0 ∧ (0 : Int) ≤ 9), (by decide : (0 : Int) ≤ 0 ∧ (0 : Int) ≤ 4)⟩, fun g k => (by decide : (0 : Int) ≤ 0 ∧ (0 : Int) ≤ 5)⟩
theorem CW_adT {C : Cm} {p k : Int} (h : CW C) (ht : ct C < 4) (hp : 0 ≤ p ∧ p ≤ 9) (hk : 0 ≤ k ∧ k ≤ 3) : CW (cAdT p k C) := by
  obtain ⟨h1, h2, h3⟩ := h
  refine ⟨⟨show 0 ≤ ct C + 1 by omega, show ct C + 1 ≤ 4 by omega⟩, ⟨h2.1, ?_⟩, fun i => ?_⟩
  · show cw C < 2 ^ (ct C + 1).toNat
    rw [show (ct C + 1).toNat = (ct C).toNat + 1 by omega, Int.pow_succ]
    have := pw_pos (ct C).toNat
    omega
  · have h4 := h3 i
    refine ⟨?_, ?_, ?_, ?_⟩
    · show 0 ≤ upI (cp C) (ct C) p i ∧ upI (cp C) (ct C) p i ≤ 9
      unfold upI
      split
      · exact hp
      · exact h4.1
    · show 0 ≤ upI (ck C) (ct C) k i ∧ upI (ck C) (ct C) k i ≤ 3
      unfold upI
      split
      · exact hk
      · exact h4.2.1
    · show 0 ≤ upI (cn C) (ct C) 0 i ∧ upI (cn C) (ct C) 0 i < 64
      unfold upI
      split
      · exact ⟨by decide, by decide⟩
      · exact h4.2.2.1
    · show 0 ≤ upI (ch C) (ct C) 0 i ∧ upI (ch C) (ct C) 0 i ≤ 9
      unfold upI
      split
      · exact ⟨by decide, by decide⟩
      · exact h4.2.2.2
theorem LW_adK {L : Ln} {p : Int} (h : LW L) (hk : L.1 < 4) (hp : 0 ≤ p ∧ p ≤ 9) : LW (lAdK p L) := by
  obtain ⟨h1, h2, h3⟩ := h
  refine ⟨⟨show 0 ≤ L.1 + 1 by omega, show L.1 + 1 ≤ 4 by omega⟩, fun g => ?_, h3⟩
  have h4 := h2 g
  unfold lAdK upI
  dsimp only
  split
  · exact ⟨hp, ⟨by decide, by decide⟩⟩
  · exact h4
theorem LW_adL {L : Ln} {a : Int} (h : LW L) (hd : L.2.2.1 (L.1 - 1) < 4) (ha : 0 ≤ a ∧ a ≤ 5) : LW (lAdL a L) := by
  obtain ⟨h1, h2, h3⟩ := h
  refine ⟨h1, fun g => ?_, fun g k => ?_⟩
  · have h4 := h2 g
    have h5 := h2 (L.1 - 1)
    unfold lAdL upI
    dsimp only
    split
    · exact ⟨h4.1, by omega, by omega⟩
    · exact h4
  · have h4 := h3 g k
    unfold lAdL
    dsimp only
    split
    · exact ha
    · exact h4
theorem cvX_adT {M : zm_M} {c : Nat} {p k : Int} (h : 0 ≤ M c 5) : cvX (zm_put (zm_put (zm_put (zm_put (zm_put M (c + 1) (M c 5) p) (c + 2) (M c 5) k) (c + 3) (M c 5) 0) (c + 4) (M c 5) 0) c 5 (M c 5 + 1)) c = cAdT p k (cvX M c) := by
  unfold cvX cAdT
  have e0 : zm_put (zm_put (zm_put (zm_put (zm_put M (c + 1) (M c 5) p) (c + 2) (M c 5) k) (c + 3) (M c 5) 0) (c + 4) (M c 5) 0) c 5 (M c 5 + 1) c = upI (M c) 5 (M c 5 + 1) := by
    rw [put_up, put_ne _ _ _ (show c ≠ c + 4 by omega), put_ne _ _ _ (show c ≠ c + 3 by omega), put_ne _ _ _ (show c ≠ c + 2 by omega), put_ne _ _ _ (show c ≠ c + 1 by omega)]
  rw [e0, put_ne _ _ _ (show c + 1 ≠ c by omega), put_ne _ _ _ (show c + 1 ≠ c + 4 by omega), put_ne _ _ _ (show c + 1 ≠ c + 3 by omega), put_ne _ _ _ (show c + 1 ≠ c + 2 by omega), put_up,
    put_ne _ _ _ (show c + 2 ≠ c by omega), put_ne _ _ _ (show c + 2 ≠ c + 4 by omega), put_ne _ _ _ (show c + 2 ≠ c + 3 by omega), put_up, put_ne _ _ _ (show c + 2 ≠ c + 1 by omega),
    put_ne _ _ _ (show c + 3 ≠ c by omega), put_ne _ _ _ (show c + 3 ≠ c + 4 by omega), put_up, put_ne _ _ _ (show c + 3 ≠ c + 2 by omega), put_ne _ _ _ (show c + 3 ≠ c + 1 by omega),
    put_ne _ _ _ (show c + 4 ≠ c by omega), put_up, put_ne _ _ _ (show c + 4 ≠ c + 3 by omega), put_ne _ _ _ (show c + 4 ≠ c + 2 by omega), put_ne _ _ _ (show c + 4 ≠ c + 1 by omega)]
  rw [upI_s, msk_s h, msk_s h, msk_s h, msk_s h]
  rfl
set_option maxRecDepth 100000 in
set_option maxHeartbeats 4000000 in
theorem ct_X1_clear {g : zt_G} {M : zm_M} {c : Nat} {q : zm_M → Prop} (hc : zp_camp c) (h : q (zm_put (zm_put (zm_put M c 5 0) c 4 0) c 6 0)) : zc_K g yX1_clear mX1_clear [zv_r c] M (zq_V q) := by
  refine zc_of (ls := [some (zv_r c)]) (by decide) rfl ⟨rfl, rfl⟩ (Nat.le_of_ble_eq_true rfl) rfl ?_
  refine zr_aload_n (pc := 0) dX1_clear_0 rfl rfl ?_
  refine zr_iconst (pc := 1) dX1_clear_1 ?_
  refine zr_putI (pc := 2) (z := 5) fX1_28 hc.1 rfl fwX1_5 rfl rfl dX1_clear_2 ?_
  refine zr_aload_n (pc := 5) dX1_clear_5 rfl rfl ?_
  refine zr_iconst (pc := 6) dX1_clear_6 ?_
  refine zr_putI (pc := 7) (z := 4) fX1_24 hc.1 rfl fwX1_4 rfl rfl dX1_clear_7 ?_
  refine zr_aload_n (pc := 10) dX1_clear_10 rfl rfl ?_
  refine zr_iconst (pc := 11) dX1_clear_11 ?_
  refine zr_putI (pc := 12) (z := 6) fX1_31 hc.1 rfl fwX1_6 rfl rfl dX1_clear_12 ?_
  exact zr_return (pc := 15) dX1_clear_15 rfl h

set_option maxRecDepth 100000 in
set_option maxHeartbeats 4000000 in
theorem ct_X1_addTramp {g : zt_G} {M : zm_M} {c : Nat} {q : zm_M → Prop} (hc : zp_camp c) {p k : Int} (hk : 0 ≤ M c 5 ∧ M c 5 < 4) (h : q (zm_put (zm_put (zm_put (zm_put (zm_put M (c + 1) (M c 5) p) (c + 2) (M c 5) k) (c + 3) (M c 5) 0) (c + 4) (M c 5) 0) c 5 (M c 5 + 1))) : zc_K g yX1_addTramp mX1_addTramp [zv_r c, zv_i p, zv_i k] M (zq_V q) := by
  refine zc_of (ls := [some (zv_r c), some (zv_i p), some (zv_i k)]) (by decide) rfl ⟨rfl, rfl⟩ (Nat.le_of_ble_eq_true rfl) rfl ?_
  have a0 : (zm_put M (c + 1) (M c 5) p) c 5 = M c 5 := by rw [put_nk _ _ _ _ (show c ≠ c + 1 by omega)]
  have a1 : (zm_put (zm_put M (c + 1) (M c 5) p) (c + 2) (M c 5) k) c 5 = M c 5 := by rw [put_nk _ _ _ _ (show c ≠ c + 2 by omega), a0]
  have a2 : (zm_put (zm_put (zm_put M (c + 1) (M c 5) p) (c + 2) (M c 5) k) (c + 3) (M c 5) 0) c 5 = M c 5 := by rw [put_nk _ _ _ _ (show c ≠ c + 3 by omega), a1]
  have a3 : (zm_put (zm_put (zm_put (zm_put M (c + 1) (M c 5) p) (c + 2) (M c 5) k) (c + 3) (M c 5) 0) (c + 4) (M c 5) 0) c 5 = M c 5 := by rw [put_nk _ _ _ _ (show c ≠ c + 4 by omega), a2]
  refine zr_aload_n (pc := 0) dX1_addTramp_0 rfl rfl ?_
  refine zr_getI (pc := 1) (z := 5) fX1_28 hc.1 rfl rfl rfl dX1_addTramp_1 ?_
  refine zr_iconst (pc := 4) dX1_addTramp_4 ?_
  refine zi_icmp_ge (pc := 5) (tgt := 58) dX1_addTramp_5 (by decide) (by omega) (by omega) (fun h5 => ?_) (fun h5 => ?_)
  · exact zr_return (pc := 58) dX1_addTramp_58 rfl (absurd h5 (by omega))
  · refine zr_aload_n (pc := 8) dX1_addTramp_8 rfl rfl ?_
    refine zr_getR (pc := 9) fX1_9 hc.1 rfl rfl dX1_addTramp_9 ?_
    refine zr_aload_n (pc := 12) dX1_addTramp_12 rfl rfl ?_
    refine zr_getI (pc := 13) (z := 5) fX1_28 hc.1 rfl rfl rfl dX1_addTramp_13 ?_
    refine zr_iload_n (pc := 16) dX1_addTramp_16 rfl rfl ?_
    refine zr_iastore (pc := 17) hc.2.1 (by omega) dX1_addTramp_17 ?_
    refine zr_aload_n (pc := 18) dX1_addTramp_18 rfl rfl ?_
    refine zr_getR (pc := 19) fX1_15 hc.1 rfl rfl dX1_addTramp_19 ?_
    refine zr_aload_n (pc := 22) dX1_addTramp_22 rfl rfl ?_
    refine zr_getI (pc := 23) (z := 5) fX1_28 hc.1 rfl rfl rfl dX1_addTramp_23 ?_
    rw [a0]
    refine zr_iload_n (pc := 26) dX1_addTramp_26 rfl rfl ?_
    refine zr_iastore (pc := 27) hc.2.2.1 (by omega) dX1_addTramp_27 ?_
    refine zr_aload_n (pc := 28) dX1_addTramp_28 rfl rfl ?_
    refine zr_getR (pc := 29) fX1_18 hc.1 rfl rfl dX1_addTramp_29 ?_
    refine zr_aload_n (pc := 32) dX1_addTramp_32 rfl rfl ?_
    refine zr_getI (pc := 33) (z := 5) fX1_28 hc.1 rfl rfl rfl dX1_addTramp_33 ?_
    rw [a1]
    refine zr_iconst (pc := 36) dX1_addTramp_36 ?_
    refine zr_iastore (pc := 37) hc.2.2.2.1 (by omega) dX1_addTramp_37 ?_
    refine zr_aload_n (pc := 38) dX1_addTramp_38 rfl rfl ?_
    refine zr_getR (pc := 39) fX1_21 hc.1 rfl rfl dX1_addTramp_39 ?_
    refine zr_aload_n (pc := 42) dX1_addTramp_42 rfl rfl ?_
    refine zr_getI (pc := 43) (z := 5) fX1_28 hc.1 rfl rfl rfl dX1_addTramp_43 ?_
    rw [a2]
    refine zr_iconst (pc := 46) dX1_addTramp_46 ?_
    refine zr_iastore (pc := 47) hc.2.2.2.2 (by omega) dX1_addTramp_47 ?_
    refine zr_aload_n (pc := 48) dX1_addTramp_48 rfl rfl ?_
    refine zr_dup_r (pc := 49) dX1_addTramp_49 ?_
    refine zr_getI (pc := 50) (z := 5) fX1_28 hc.1 rfl rfl rfl dX1_addTramp_50 ?_
    rw [a3]
    refine zr_iconst (pc := 53) dX1_addTramp_53 ?_
    refine zr_iadd (pc := 54) dX1_addTramp_54 ?_
    refine zr_putI (pc := 55) (z := 5) fX1_28 hc.1 rfl fwX1_5 rfl rfl dX1_addTramp_55 ?_
    exact zr_return (pc := 58) dX1_addTramp_58 rfl h

/-! the reader as an automaton: stage, place of the tramp begun, land, camp -/
abbrev Rs : Type := Int × Int × Ln × Cm
def bgS (x : Int) (S : Rs) : Option Rs := if x = 71 ∧ S.2.2.1.1 < 4 then some (2, S.2) else if x = 73 ∧ ct S.2.2.2 < 4 then some (5, S.2) else none
abbrev lyOk (a : Int) (L : Ln) : Prop := (0 ≤ a ∧ a < 6) ∧ ¬ (4 ≤ L.2.2.1 (L.1 - 1) ∨ bt (bitG L (L.1 - 1)) a = true)
def tkS (x : Int) (S : Rs) : Option Rs :=
  if S.1 = 0 then (if x = 75 then some (1, S.2) else none)
  else if S.1 = 2 then (if (0 ≤ x - 48 ∧ x - 48 < 10) ∧ kiA S.2.2.1 (x - 48) = -9 then some (3, S.2.1, lAdK (x - 48) S.2.2.1, S.2.2.2) else none)
  else if S.1 = 3 then (if lyOk (x - 97) S.2.2.1 then some (4, S.2.1, lAdL (x - 97) S.2.2.1, S.2.2.2) else none)
  else if S.1 = 4 then (if lyOk (x - 97) S.2.2.1 then some (4, S.2.1, lAdL (x - 97) S.2.2.1, S.2.2.2) else bgS x S)
  else if S.1 = 5 then (if 0 ≤ x - 48 ∧ x - 48 < 10 then some (6, x - 48, S.2.2) else none)
  else if S.1 = 6 then (if 0 ≤ x - 48 ∧ x - 48 < 4 then some (1, S.2.1, S.2.2.1, cAdT S.2.1 (x - 48) S.2.2.2) else none)
  else bgS x S
def RW (S : Rs) : Prop := (0 ≤ S.1 ∧ S.1 ≤ 6) ∧ LW S.2.2.1 ∧ CW S.2.2.2 ∧ (S.1 = 2 → S.2.2.1.1 < 4) ∧ (S.1 = 3 ∨ S.1 = 4 → 0 < S.2.2.1.1) ∧ (S.1 = 5 ∨ S.1 = 6 → ct S.2.2.2 < 4) ∧ (S.1 = 6 → 0 ≤ S.2.1 ∧ S.2.1 ≤ 9)
def rvX (M : zm_M) : Rs := (M 3 2, M 3 3, lvX M 4, cvX M 8)
def frR (M M2 : zm_M) : Prop := ∀ (k : Nat) (i : Int), (k < 3 ∨ 12 < k) → M2 k i = M k i
theorem frR.rf {M : zm_M} : frR M M := fun _ _ _ => rfl
theorem frR.put {M M2 : zm_M} (h : frR M M2) (k : Nat) (i v : Int) (hk : 3 ≤ k ∧ k ≤ 12) : frR M (zm_put M2 k i v) := by
  intro k2 i2 h2
  rw [put_nk _ _ _ _ (by omega)]
  exact h k2 i2 h2
theorem frR.tr {M M2 M3 : zm_M} (h : frR M M2) (h2 : frR M2 M3) : frR M M3 := fun k i hk => (h2 k i hk).trans (h k i hk)
theorem rvX_3 {M : zm_M} {i v : Int} : lvX (zm_put M 3 i v) 4 = lvX M 4 ∧ cvX (zm_put M 3 i v) 8 = cvX M 8 := ⟨lvX_fr (fun k j h1 h2 => put_nk _ _ _ _ (by omega)), cvX_fr (fun k j h1 h2 => put_nk _ _ _ _ (by omega))⟩
theorem RW_bg {x : Int} {S S2 : Rs} (h : RW S) (e : bgS x S = some S2) : RW S2 := by
  obtain ⟨h1, h2, h3, h4⟩ := h
  unfold bgS at e
  split at e
  · rename_i hx
    cases e
    exact ⟨⟨by simp, by simp⟩, h2, h3, fun _ => hx.2, fun y => by simp at y, fun y => by simp at y, fun y => by simp at y⟩
  · split at e
    · rename_i hx
      cases e
      exact ⟨⟨by simp, by simp⟩, h2, h3, fun y => (by simp at y), fun y => by simp at y, fun _ => hx.2, fun y => by simp at y⟩
    · cases e
theorem RW_ly {x : Int} {S : Rs} (h : RW S) (hp : 0 < S.2.2.1.1) (hl : lyOk (x - 97) S.2.2.1) : RW (4, S.2.1, lAdL (x - 97) S.2.2.1, S.2.2.2) := by
  obtain ⟨h1, h2, h3, h4⟩ := h
  refine ⟨⟨by simp, by simp⟩, LW_adL h2 (by have := hl.2; omega) (by have := hl.1; omega), h3, fun y => (by simp at y), fun _ => hp, fun y => by simp at y, fun y => by simp at y⟩
theorem RW_tk {x : Int} {S S2 : Rs} (h : RW S) (e : tkS x S = some S2) : RW S2 := by
  have h0 := h
  obtain ⟨h1, h2, h3, h4, h5, h6, h7⟩ := h
  unfold tkS at e
  split at e
  · split at e
    · cases e
      exact ⟨⟨by simp, by simp⟩, h2, h3, fun y => (by simp at y), fun y => by simp at y, fun y => by simp at y, fun y => by simp at y⟩
    · cases e
  split at e
  · rename_i hs
    split at e
    · rename_i hx
      cases e
      exact ⟨⟨by simp, by simp⟩, LW_adK h2 (h4 hs) ⟨hx.1.1, by omega⟩, h3, fun y => (by simp at y), fun _ => (show 0 < S.2.2.1.1 + 1 by have := h2.1; omega), fun y => by simp at y, fun y => by simp at y⟩
    · cases e
  split at e
  · rename_i hs
    split at e
    · rename_i hx
      cases e
      exact RW_ly h0 (h5 (Or.inl hs)) hx
    · cases e
  split at e
  · rename_i hs
    split at e
    · rename_i hx
      cases e
      exact RW_ly h0 (h5 (Or.inr hs)) hx
    · exact RW_bg h0 e
  split at e
  · rename_i hs
    split at e
    · rename_i hx
      cases e
      exact ⟨⟨by simp, by simp⟩, h2, h3, fun y => (by simp at y), fun y => by simp at y, fun _ => h6 (Or.inl hs), fun _ => ⟨hx.1, by show x - 48 ≤ 9; omega⟩⟩
    · cases e
  split at e
  · rename_i hs
    split at e
    · rename_i hx
      cases e
      exact ⟨⟨by simp, by simp⟩, h2, CW_adT h3 (h6 (Or.inr hs)) (h7 hs) ⟨hx.1, by omega⟩, fun y => (by simp at y), fun y => by simp at y, fun y => by simp at y, fun y => by simp at y⟩
    · cases e
  exact RW_bg h0 e
set_option maxRecDepth 100000 in
set_option maxHeartbeats 4000000 in
theorem ct_X5_beginsPart {g : zt_G} {M : zm_M} {q : Int → zm_M → Prop} (hw : RW (rvX M)) {x : Int} (hx : zi x) (hno : bgS x (rvX M) = none → ∀ M2, frR M M2 → q 0 M2) (hyes : ∀ S2, bgS x (rvX M) = some S2 → ∀ M2, frR M M2 → rvX M2 = S2 → q 1 M2) : zc_K g yX5_beginsPart mX5_beginsPart [zv_r 3, zv_i x] M (zq_I q) := by
  refine zc_of (ls := [some (zv_r 3), some (zv_i x)]) (by decide) rfl ⟨rfl, rfl⟩ (Nat.le_of_ble_eq_true rfl) rfl ?_
  have hL : LW (lvX M 4) := hw.2.1
  have hC : CW (cvX M 8) := hw.2.2.1
  have hL1 := yXk hL
  have hC1 := wXt hC
  have hst : 0 ≤ M 3 2 ∧ M 3 2 ≤ 6 := hw.1
  refine zr_iload_n (pc := 0) dX5_beginsPart_0 rfl rfl ?_
  refine zr_bipush (pc := 1) dX5_beginsPart_1 (by decide) ?_
  refine zi_icmp_ne (pc := 3) (tgt := 24) dX5_beginsPart_3 (by decide) (by omega) (by omega) (fun h3 => ?_) (fun h3 => ?_)
  · refine zr_iload_n (pc := 24) dX5_beginsPart_24 rfl rfl ?_
    refine zr_bipush (pc := 25) dX5_beginsPart_25 (by decide) ?_
    refine zi_icmp_ne (pc := 27) (tgt := 48) dX5_beginsPart_27 (by decide) (by omega) (by omega) (fun h27 => ?_) (fun h27 => ?_)
    · refine zr_iconst (pc := 48) dX5_beginsPart_48 ?_
      exact zr_zreturn (pc := 49) dX5_beginsPart_49 rfl (by decide) (hno (by unfold bgS; rw [if_neg (fun y => h3 y.1), if_neg (fun y => h27 y.1)]) _ frR.rf)
    · refine zr_aload_n (pc := 30) dX5_beginsPart_30 rfl rfl ?_
      refine zr_getR (pc := 31) fX5_21 lo_3 rfl rfl dX5_beginsPart_31 ?_
      refine zr_getI (pc := 34) (z := 5) fX5_67 lo_8 rfl rfl rfl dX5_beginsPart_34 ?_
      refine zr_iconst (pc := 37) dX5_beginsPart_37 ?_
      refine zi_icmp_ge (pc := 38) (tgt := 48) dX5_beginsPart_38 (by decide) (by omega) (by omega) (fun h38 => ?_) (fun h38 => ?_)
      · refine zr_iconst (pc := 48) dX5_beginsPart_48 ?_
        exact zr_zreturn (pc := 49) dX5_beginsPart_49 rfl (by decide) (hno (by unfold bgS; rw [if_neg (fun y => h3 y.1), if_neg (fun y => absurd y.2 (by show ¬ M 8 5 < 4; omega))]) _ frR.rf)
      · refine zr_aload_n (pc := 41) dX5_beginsPart_41 rfl rfl ?_
        refine zr_iconst (pc := 42) dX5_beginsPart_42 ?_
        refine zr_putI (pc := 43) (z := 2) fX5_25 lo_3 rfl fwX5_2 rfl rfl dX5_beginsPart_43 ?_
        refine zr_iconst (pc := 46) dX5_beginsPart_46 ?_
        exact zr_zreturn (pc := 47) dX5_beginsPart_47 rfl (by decide) (hyes (5, (rvX M).2) (by unfold bgS; rw [if_neg (fun y => h3 y.1), if_pos ⟨h27, h38⟩]) _ (frR.rf.put 3 2 5 (by decide)) (by unfold rvX; rw [rvX_3.1, rvX_3.2, put_at, put_ni _ _ (show (3 : Int) ≠ 2 by decide)]))
  · refine zr_aload_n (pc := 6) dX5_beginsPart_6 rfl rfl ?_
    refine zr_getR (pc := 7) fX5_12 lo_3 rfl rfl dX5_beginsPart_7 ?_
    refine zr_getI (pc := 10) (z := 3) fX5_64 lo_4 rfl rfl rfl dX5_beginsPart_10 ?_
    refine zr_iconst (pc := 13) dX5_beginsPart_13 ?_
    refine zi_icmp_ge (pc := 14) (tgt := 24) dX5_beginsPart_14 (by decide) (by omega) (by omega) (fun h14 => ?_) (fun h14 => ?_)
    · refine zr_iload_n (pc := 24) dX5_beginsPart_24 rfl rfl ?_
      refine zr_bipush (pc := 25) dX5_beginsPart_25 (by decide) ?_
      refine zi_icmp_ne (pc := 27) (tgt := 48) dX5_beginsPart_27 (by decide) (by omega) (by omega) (fun h27 => ?_) (fun h27 => ?_)
      · refine zr_iconst (pc := 48) dX5_beginsPart_48 ?_
        exact zr_zreturn (pc := 49) dX5_beginsPart_49 rfl (by decide) (hno (by unfold bgS; rw [if_neg (fun y => absurd y.2 (by show ¬ M 4 3 < 4; omega)), if_neg (fun y => h27 y.1)]) _ frR.rf)
      · refine zr_aload_n (pc := 30) dX5_beginsPart_30 rfl rfl ?_
        refine zr_getR (pc := 31) fX5_21 lo_3 rfl rfl dX5_beginsPart_31 ?_
        refine zr_getI (pc := 34) (z := 5) fX5_67 lo_8 rfl rfl rfl dX5_beginsPart_34 ?_
        refine zr_iconst (pc := 37) dX5_beginsPart_37 ?_
        refine zi_icmp_ge (pc := 38) (tgt := 48) dX5_beginsPart_38 (by decide) (by omega) (by omega) (fun h38 => ?_) (fun h38 => ?_)
        · refine zr_iconst (pc := 48) dX5_beginsPart_48 ?_
          exact zr_zreturn (pc := 49) dX5_beginsPart_49 rfl (by decide) (hno (by unfold bgS; rw [if_neg (fun y => absurd y.2 (by show ¬ M 4 3 < 4; omega)), if_neg (fun y => absurd y.2 (by show ¬ M 8 5 < 4; omega))]) _ frR.rf)
        · refine zr_aload_n (pc := 41) dX5_beginsPart_41 rfl rfl ?_
          refine zr_iconst (pc := 42) dX5_beginsPart_42 ?_
          refine zr_putI (pc := 43) (z := 2) fX5_25 lo_3 rfl fwX5_2 rfl rfl dX5_beginsPart_43 ?_
          refine zr_iconst (pc := 46) dX5_beginsPart_46 ?_
          exact zr_zreturn (pc := 47) dX5_beginsPart_47 rfl (by decide) (hyes (5, (rvX M).2) (by unfold bgS; rw [if_neg (fun y => absurd y.2 (by show ¬ M 4 3 < 4; omega)), if_pos ⟨h27, h38⟩]) _ (frR.rf.put 3 2 5 (by decide)) (by unfold rvX; rw [rvX_3.1, rvX_3.2, put_at, put_ni _ _ (show (3 : Int) ≠ 2 by decide)]))
    · refine zr_aload_n (pc := 17) dX5_beginsPart_17 rfl rfl ?_
      refine zr_iconst (pc := 18) dX5_beginsPart_18 ?_
      refine zr_putI (pc := 19) (z := 2) fX5_25 lo_3 rfl fwX5_2 rfl rfl dX5_beginsPart_19 ?_
      refine zr_iconst (pc := 22) dX5_beginsPart_22 ?_
      exact zr_zreturn (pc := 23) dX5_beginsPart_23 rfl (by decide) (hyes (2, (rvX M).2) (by unfold bgS; rw [if_pos ⟨h3, h14⟩]) _ (frR.rf.put 3 2 2 (by decide)) (by unfold rvX; rw [rvX_3.1, rvX_3.2, put_at, put_ni _ _ (show (3 : Int) ≠ 2 by decide)]))

set_option maxRecDepth 100000 in
set_option maxHeartbeats 4000000 in
theorem ct_X5_takesKilnPlace {g : zt_G} {M : zm_M} {q : Int → zm_M → Prop} (hw : RW (rvX M)) {x : Int} (hx : zi x) (hs : M 3 2 = 2) (hno : ¬ ((0 ≤ x ∧ x < 10) ∧ kiA (lvX M 4) x = -9) → q 0 M) (hyes : ((0 ≤ x ∧ x < 10) ∧ kiA (lvX M 4) x = -9) → ∀ M2, frR M M2 → rvX M2 = (3, M 3 3, lAdK x (lvX M 4), cvX M 8) → q 1 M2) : zc_K g yX5_takesKilnPlace mX5_takesKilnPlace [zv_r 3, zv_i x] M (zq_I q) := by
  refine zc_of (ls := [some (zv_r 3), some (zv_i x)]) (by decide) rfl ⟨rfl, rfl⟩ (Nat.le_of_ble_eq_true rfl) rfl ?_
  have hL : LW (lvX M 4) := hw.2.1
  have hC : CW (cvX M 8) := hw.2.2.1
  have hL1 := yXk hL
  have hC1 := wXt hC
  have hst : 0 ≤ M 3 2 ∧ M 3 2 ≤ 6 := hw.1
  have hk4 : M 4 3 < 4 := hw.2.2.2.1 hs
  have hki := kiA_in (lvX M 4) x hL.1.1
  have hk5 : (lvX M 4).1 = M 4 3 := rfl
  refine zr_iload_n (pc := 0) dX5_takesKilnPlace_0 rfl rfl ?_
  refine zr_nest1I (pc := 1) rfl sX5_58 rfl rfl dX5_takesKilnPlace_1 ?_
  refine ct_X10_isPlace hx ?_
  refine zr_ifb_eq (pc := 4) (tgt := 20) dX5_takesKilnPlace_4 (by decide) (fun h4 => ?_) (fun h4 => ?_)
  · refine zr_iconst (pc := 20) dX5_takesKilnPlace_20 ?_
    exact zr_zreturn (pc := 21) dX5_takesKilnPlace_21 rfl (by decide) (hno (fun y => h4 y.1))
  · refine zr_aload_n (pc := 7) dX5_takesKilnPlace_7 rfl rfl ?_
    refine zr_getR (pc := 8) fX5_12 lo_3 rfl rfl dX5_takesKilnPlace_8 ?_
    refine zr_iload_n (pc := 11) dX5_takesKilnPlace_11 rfl rfl ?_
    refine zr_inv1I (pc := 12) rfl sX5_70 lo_4 rfl rfl rfl dX5_takesKilnPlace_12 ?_
    refine ct_X3_kilnAt zp_l4 hL hx ?_
    refine zr_bipush (pc := 15) dX5_takesKilnPlace_15 (by decide) ?_
    refine zi_icmp_eq (pc := 17) (tgt := 22) dX5_takesKilnPlace_17 (by decide) (by omega) (by omega) (fun h17 => ?_) (fun h17 => ?_)
    · refine zr_aload_n (pc := 22) dX5_takesKilnPlace_22 rfl rfl ?_
      refine zr_getR (pc := 23) fX5_12 lo_3 rfl rfl dX5_takesKilnPlace_23 ?_
      refine zr_iload_n (pc := 26) dX5_takesKilnPlace_26 rfl rfl ?_
      refine zr_inv1V (pc := 27) rfl sX5_74 lo_4 rfl rfl rfl dX5_takesKilnPlace_27 ?_
      refine ct_X3_addKiln zp_l4 ⟨hL1.1, hk4⟩ ?_
      refine zr_aload_n (pc := 30) dX5_takesKilnPlace_30 rfl rfl ?_
      refine zr_iconst (pc := 31) dX5_takesKilnPlace_31 ?_
      refine zr_putI (pc := 32) (z := 2) fX5_25 lo_3 rfl fwX5_2 rfl rfl dX5_takesKilnPlace_32 ?_
      refine zr_iconst (pc := 35) dX5_takesKilnPlace_35 ?_
      exact zr_zreturn (pc := 36) dX5_takesKilnPlace_36 rfl (by decide) (hyes ⟨h4, h17⟩ _ ((((frR.rf.put (4 + 1) _ _ (by decide)).put (4 + 2) _ _ (by decide)).put 4 _ _ (by decide)).put 3 2 3 (by decide)) (by
          unfold rvX
          rw [rvX_3.1, rvX_3.2, lvX_adK hL1.1, cvX_fr (fun k j g1 g2 => by rw [put_nk _ _ _ _ (show k ≠ 4 by omega), put_nk _ _ _ _ (show k ≠ 4 + 2 by omega), put_nk _ _ _ _ (show k ≠ 4 + 1 by omega)]), put_at, put_ni _ _ (show (3 : Int) ≠ 2 by decide), put_nk _ _ _ _ (show 3 ≠ 4 by decide), put_nk _ _ _ _ (show 3 ≠ 4 + 2 by decide), put_nk _ _ _ _ (show 3 ≠ 4 + 1 by decide)]))
    · refine zr_iconst (pc := 20) dX5_takesKilnPlace_20 ?_
      exact zr_zreturn (pc := 21) dX5_takesKilnPlace_21 rfl (by decide) (hno (fun y => h17 y.2))

set_option maxRecDepth 100000 in
set_option maxHeartbeats 4000000 in
theorem ct_X5_takesLayer {g : zt_G} {M : zm_M} {q : Int → zm_M → Prop} (hw : RW (rvX M)) {x : Int} (hx : zi x) (hs : 0 < M 4 3) (hno : ¬ lyOk x (lvX M 4) → ∀ M2, frR M M2 → lvX M2 4 = lvX M 4 → cvX M2 8 = cvX M 8 → M2 3 3 = M 3 3 → (M2 3 2 = 4 ∨ M2 3 2 = M 3 2) → q 0 M2) (hyes : lyOk x (lvX M 4) → ∀ M2, frR M M2 → rvX M2 = (4, M 3 3, lAdL x (lvX M 4), cvX M 8) → q 1 M2) : zc_K g yX5_takesLayer mX5_takesLayer [zv_r 3, zv_i x] M (zq_I q) := by
  refine zc_of (ls := [some (zv_r 3), some (zv_i x)]) (by decide) rfl ⟨rfl, rfl⟩ (Nat.le_of_ble_eq_true rfl) rfl ?_
  have hL : LW (lvX M 4) := hw.2.1
  have hC : CW (cvX M 8) := hw.2.2.1
  have hL1 := yXk hL
  have hC1 := wXt hC
  have hst : 0 ≤ M 3 2 ∧ M 3 2 ≤ 6 := hw.1
  have e0 : lvX (zm_put M 3 2 4) 4 = lvX M 4 := rvX_3.1
  have hLy : LW (lvX (zm_put M 3 2 4) 4) := by rw [e0]; exact hL
  have e3 : zm_put M 3 2 4 4 3 = M 4 3 := put_nk _ _ _ _ (by decide)
  have e5 : ∀ i, zm_put M 3 2 4 (4 + 2) i = M (4 + 2) i := fun i => put_nk _ _ _ _ (by decide)
  have hk5 : (lvX M 4).1 = M 4 3 := rfl
  have e6 : (lvX M 4).2.2.1 ((lvX M 4).1 - 1) = M (4 + 2) (M 4 3 - 1) := lX_d ⟨by rw [hk5]; omega, by rw [hk5]; omega⟩
  have hd := yX hL (g := M 4 3 - 1) ⟨by omega, by omega⟩
  refine zr_iload_n (pc := 0) dX5_takesLayer_0 rfl rfl ?_
  refine zi_if_lt (pc := 1) (tgt := 10) dX5_takesLayer_1 (by decide) (by omega) (fun h1 => ?_) (fun h1 => ?_)
  · refine zr_iconst (pc := 10) dX5_takesLayer_10 ?_
    exact zr_zreturn (pc := 11) dX5_takesLayer_11 rfl (by decide) (hno (fun y => absurd y.1 (by omega)) _ frR.rf rfl rfl rfl (Or.inr rfl))
  · refine zr_iload_n (pc := 4) dX5_takesLayer_4 rfl rfl ?_
    refine zr_bipush (pc := 5) dX5_takesLayer_5 (by decide) ?_
    refine zi_icmp_lt (pc := 7) (tgt := 12) dX5_takesLayer_7 (by decide) (by omega) (by omega) (fun h7 => ?_) (fun h7 => ?_)
    · refine zr_aload_n (pc := 12) dX5_takesLayer_12 rfl rfl ?_
      refine zr_iconst (pc := 13) dX5_takesLayer_13 ?_
      refine zr_putI (pc := 14) (z := 2) fX5_25 lo_3 rfl fwX5_2 rfl rfl dX5_takesLayer_14 ?_
      refine zr_aload_n (pc := 17) dX5_takesLayer_17 rfl rfl ?_
      refine zr_getR (pc := 18) fX5_12 lo_3 rfl rfl dX5_takesLayer_18 ?_
      refine zr_iload_n (pc := 21) dX5_takesLayer_21 rfl rfl ?_
      refine zr_inv1I (pc := 22) rfl sX5_78 lo_4 rfl rfl rfl dX5_takesLayer_22 ?_
      refine ct_X3_addLayer zp_l4 hLy (by rw [e3]; exact hs) ⟨h1, h7⟩ (fun hx1 => ?_) (fun hx1 => ?_)
      · rw [e0, e3, e5] at hx1
        exact zr_zreturn (pc := 25) dX5_takesLayer_25 rfl (by decide) (hno (fun y => y.2 (by rw [e6]; exact hx1)) _ (frR.rf.put 3 2 4 (by decide)) e0 rvX_3.2 (put_ni _ _ (by decide)) (Or.inl (put_at _ _ _ _)))
      · rw [e0, e3, e5] at hx1
        rw [e3, e5]
        exact zr_zreturn (pc := 25) dX5_takesLayer_25 rfl (by decide) (hyes ⟨⟨h1, h7⟩, by rw [e6]; exact hx1⟩ _ (((frR.rf.put 3 2 4 (by decide)).put (4 + 3) _ _ (by decide)).put (4 + 2) _ _ (by decide)) (by
            have e7 := lvX_adL (M := zm_put M 3 2 4) (l := 4) (a := x) ⟨by rw [e3]; exact hs, by rw [e3]; omega⟩ (by rw [e3, e5]; omega) (fun g g0 g1 => by rw [e3] at g1; rw [e5]; exact (yX hL ⟨g0, g1⟩).2)
            rw [e3, e5, e0] at e7
            unfold rvX
            rw [e7, cvX_fr (fun k j g1 g2 => by rw [put_nk _ _ _ _ (show k ≠ 4 + 2 by omega), put_nk _ _ _ _ (show k ≠ 4 + 3 by omega), put_nk _ _ _ _ (show k ≠ 3 by omega)]), put_nk _ _ _ _ (show 3 ≠ 4 + 2 by decide), put_nk _ _ _ _ (show 3 ≠ 4 + 3 by decide), put_nk _ _ _ _ (show 3 ≠ 4 + 2 by decide), put_nk _ _ _ _ (show 3 ≠ 4 + 3 by decide), put_at, put_ni _ _ (show (3 : Int) ≠ 2 by decide)]))
    · refine zr_iconst (pc := 10) dX5_takesLayer_10 ?_
      exact zr_zreturn (pc := 11) dX5_takesLayer_11 rfl (by decide) (hno (fun y => absurd y.1 (by omega)) _ frR.rf rfl rfl rfl (Or.inr rfl))

set_option maxRecDepth 100000 in
set_option maxHeartbeats 4000000 in
theorem ct_X5_takesTrampKind {g : zt_G} {M : zm_M} {q : Int → zm_M → Prop} (hw : RW (rvX M)) {x : Int} (hx : zi x) (hs : M 3 2 = 6) (hno : ¬ (0 ≤ x ∧ x < 4) → q 0 M) (hyes : (0 ≤ x ∧ x < 4) → ∀ M2, frR M M2 → rvX M2 = (1, M 3 3, lvX M 4, cAdT (M 3 3) x (cvX M 8)) → q 1 M2) : zc_K g yX5_takesTrampKind mX5_takesTrampKind [zv_r 3, zv_i x] M (zq_I q) := by
  refine zc_of (ls := [some (zv_r 3), some (zv_i x)]) (by decide) rfl ⟨rfl, rfl⟩ (Nat.le_of_ble_eq_true rfl) rfl ?_
  have hL : LW (lvX M 4) := hw.2.1
  have hC : CW (cvX M 8) := hw.2.2.1
  have hL1 := yXk hL
  have hC1 := wXt hC
  have hst : 0 ≤ M 3 2 ∧ M 3 2 ≤ 6 := hw.1
  have ht4 : M 8 5 < 4 := hw.2.2.2.2.2.1 (Or.inr hs)
  refine zr_iload_n (pc := 0) dX5_takesTrampKind_0 rfl rfl ?_
  refine zi_if_lt (pc := 1) (tgt := 9) dX5_takesTrampKind_1 (by decide) (by omega) (fun h1 => ?_) (fun h1 => ?_)
  · refine zr_iconst (pc := 9) dX5_takesTrampKind_9 ?_
    exact zr_zreturn (pc := 10) dX5_takesTrampKind_10 rfl (by decide) (hno (by omega))
  · refine zr_iload_n (pc := 4) dX5_takesTrampKind_4 rfl rfl ?_
    refine zr_iconst (pc := 5) dX5_takesTrampKind_5 ?_
    refine zi_icmp_lt (pc := 6) (tgt := 11) dX5_takesTrampKind_6 (by decide) (by omega) (by omega) (fun h6 => ?_) (fun h6 => ?_)
    · refine zr_aload_n (pc := 11) dX5_takesTrampKind_11 rfl rfl ?_
      refine zr_getR (pc := 12) fX5_21 lo_3 rfl rfl dX5_takesTrampKind_12 ?_
      refine zr_aload_n (pc := 15) dX5_takesTrampKind_15 rfl rfl ?_
      refine zr_getI (pc := 16) (z := 3) fX5_29 lo_3 rfl rfl rfl dX5_takesTrampKind_16 ?_
      refine zr_iload_n (pc := 19) dX5_takesTrampKind_19 rfl rfl ?_
      refine zr_inv2V (pc := 20) rfl sX5_81 lo_8 rfl rfl rfl dX5_takesTrampKind_20 ?_
      refine ct_X1_addTramp zp_c8 ⟨hC1.1, ht4⟩ ?_
      refine zr_aload_n (pc := 23) dX5_takesTrampKind_23 rfl rfl ?_
      refine zr_iconst (pc := 24) dX5_takesTrampKind_24 ?_
      refine zr_putI (pc := 25) (z := 2) fX5_25 lo_3 rfl fwX5_2 rfl rfl dX5_takesTrampKind_25 ?_
      refine zr_iconst (pc := 28) dX5_takesTrampKind_28 ?_
      exact zr_zreturn (pc := 29) dX5_takesTrampKind_29 rfl (by decide) (hyes ⟨h1, h6⟩ _ ((((((frR.rf.put (8 + 1) _ _ (by decide)).put (8 + 2) _ _ (by decide)).put (8 + 3) _ _ (by decide)).put (8 + 4) _ _ (by decide)).put 8 _ _ (by decide)).put 3 2 1 (by decide)) (by
          unfold rvX
          rw [rvX_3.1, rvX_3.2, cvX_adT hC1.1, lvX_fr (fun k j g1 g2 => by rw [put_nk _ _ _ _ (show k ≠ 8 by omega), put_nk _ _ _ _ (show k ≠ 8 + 4 by omega), put_nk _ _ _ _ (show k ≠ 8 + 3 by omega), put_nk _ _ _ _ (show k ≠ 8 + 2 by omega), put_nk _ _ _ _ (show k ≠ 8 + 1 by omega)]), put_at, put_ni _ _ (show (3 : Int) ≠ 2 by decide), put_nk _ _ _ _ (show 3 ≠ 8 by decide), put_nk _ _ _ _ (show 3 ≠ 8 + 4 by decide), put_nk _ _ _ _ (show 3 ≠ 8 + 3 by decide), put_nk _ _ _ _ (show 3 ≠ 8 + 2 by decide), put_nk _ _ _ _ (show 3 ≠ 8 + 1 by decide)]))
    · refine zr_iconst (pc := 9) dX5_takesTrampKind_9 ?_
      exact zr_zreturn (pc := 10) dX5_takesTrampKind_10 rfl (by decide) (hno (by omega))

theorem RW_of {M M2 : zm_M} (h : RW (rvX M)) (h1 : M2 3 2 = M 3 2) (h2 : M2 3 3 = M 3 3) (h3 : lvX M2 4 = lvX M 4) (h4 : cvX M2 8 = cvX M 8) : rvX M2 = rvX M := by
  unfold rvX
  rw [h1, h2, h3, h4]
set_option maxRecDepth 100000 in
set_option maxHeartbeats 4000000 in
theorem ct_X5_takes {g : zt_G} {M : zm_M} {q : Int → zm_M → Prop} (hw : RW (rvX M)) {x : Int} (hx : 0 ≤ x ∧ x ≤ 255) (hno : tkS x (rvX M) = none → ∀ M2, frR M M2 → q 0 M2) (hyes : ∀ S2, tkS x (rvX M) = some S2 → ∀ M2, frR M M2 → rvX M2 = S2 → q 1 M2) : zc_K g yX5_takes mX5_takes [zv_r 3, zv_i x] M (zq_I q) := by
  refine zc_of (ls := [some (zv_r 3), some (zv_i x)]) (by decide) rfl ⟨rfl, rfl⟩ (Nat.le_of_ble_eq_true rfl) rfl ?_
  have hL : LW (lvX M 4) := hw.2.1
  have hC : CW (cvX M 8) := hw.2.2.1
  have hL1 := yXk hL
  have hC1 := wXt hC
  have hst : 0 ≤ M 3 2 ∧ M 3 2 ≤ 6 := hw.1
  refine zr_aload_n (pc := 0) dX5_takes_0 rfl rfl ?_
  refine zr_getI (pc := 1) (z := 2) fX5_25 lo_3 rfl rfl rfl dX5_takes_1 ?_
  rcases (by omega : (M 3 2) = 0 ∨ (M 3 2) = 1 ∨ (M 3 2) = 2 ∨ (M 3 2) = 3 ∨ (M 3 2) = 4 ∨ (M 3 2) = 5 ∨ (M 3 2) = 6 ∨ ((M 3 2) < 0 ∨ 6 < (M 3 2))) with hsw4 | hsw4 | hsw4 | hsw4 | hsw4 | hsw4 | hsw4 | hsw4
  · refine zr_tab_in (pc := 4) (tgt := 48) dX5_takes_4 (by rw [hsw4]; decide) (by rw [hsw4]; decide) (off := 44) (by rw [hsw4]; decide +kernel) (by decide) ?_
    refine zr_aload_n (pc := 48) dX5_takes_48 rfl rfl ?_
    refine zr_iconst (pc := 49) dX5_takes_49 ?_
    refine zr_putI (pc := 50) (z := 2) fX5_25 lo_3 rfl fwX5_2 rfl rfl dX5_takes_50 ?_
    refine zr_iload_n (pc := 53) dX5_takes_53 rfl rfl ?_
    refine zr_bipush (pc := 54) dX5_takes_54 (by decide) ?_
    refine zi_icmp_ne (pc := 56) (tgt := 63) dX5_takes_56 (by decide) (by omega) (by omega) (fun h56 => ?_) (fun h56 => ?_)
    · refine zr_iconst (pc := 63) dX5_takes_63 ?_
      exact zr_zreturn (pc := 64) dX5_takes_64 rfl (by decide) (hno (by unfold tkS; rw [show (rvX M).1 = 0 from hsw4]; exact (if_pos rfl).trans (if_neg h56)) _ (frR.rf.put 3 2 1 (by decide)))
    · refine zr_iconst (pc := 59) dX5_takes_59 ?_
      refine zr_goto (pc := 60) (tgt := 64) dX5_takes_60 (by decide) ?_
      exact zr_zreturn (pc := 64) dX5_takes_64 rfl (by decide) (hyes (1, (rvX M).2) (by unfold tkS; rw [show (rvX M).1 = 0 from hsw4]; exact (if_pos rfl).trans (if_pos h56)) _ (frR.rf.put 3 2 1 (by decide)) (by unfold rvX; rw [rvX_3.1, rvX_3.2, put_at, put_ni _ _ (show (3 : Int) ≠ 2 by decide)]))
  · refine zr_tab_in (pc := 4) (tgt := 139) dX5_takes_4 (by rw [hsw4]; decide) (by rw [hsw4]; decide) (off := 135) (by rw [hsw4]; decide +kernel) (by decide) ?_
    refine zr_aload_n (pc := 139) dX5_takes_139 rfl rfl ?_
    refine zr_iload_n (pc := 140) dX5_takes_140 rfl rfl ?_
    refine zr_inv1I (pc := 141) rfl sX5_55 lo_3 rfl rfl rfl dX5_takes_141 ?_
    refine ct_X5_beginsPart hw (by omega) (fun hb M3 hfr3 => ?_) (fun S2 hb M3 hfr3 hv3 => ?_)
    · exact zr_zreturn (pc := 144) dX5_takes_144 rfl (by decide) (hno (by unfold tkS; rw [show (rvX M).1 = 1 from hsw4, if_neg (by decide), if_neg (by decide), if_neg (by decide), if_neg (by decide), if_neg (by decide), if_neg (by decide)]; exact hb) _ hfr3)
    · exact zr_zreturn (pc := 144) dX5_takes_144 rfl (by decide) (hyes _ (by unfold tkS; rw [show (rvX M).1 = 1 from hsw4, if_neg (by decide), if_neg (by decide), if_neg (by decide), if_neg (by decide), if_neg (by decide), if_neg (by decide)]; exact hb) _ hfr3 hv3)
  · refine zr_tab_in (pc := 4) (tgt := 65) dX5_takes_4 (by rw [hsw4]; decide) (by rw [hsw4]; decide) (off := 61) (by rw [hsw4]; decide +kernel) (by decide) ?_
    refine zr_aload_n (pc := 65) dX5_takes_65 rfl rfl ?_
    refine zr_iload_n (pc := 66) dX5_takes_66 rfl rfl ?_
    refine zr_bipush (pc := 67) dX5_takes_67 (by decide) ?_
    refine zr_isub (pc := 69) dX5_takes_69 ?_
    refine zr_inv1I (pc := 70) rfl sX5_49 lo_3 rfl rfl rfl dX5_takes_70 ?_
    refine ct_X5_takesKilnPlace hw (by omega) hsw4 (fun hz => ?_) (fun hz M2 hfr hv => ?_)
    · exact zr_zreturn (pc := 73) dX5_takes_73 rfl (by decide) (hno (by unfold tkS; rw [show (rvX M).1 = 2 from hsw4, if_neg (by decide), if_pos rfl]; exact if_neg hz) _ frR.rf)
    · exact zr_zreturn (pc := 73) dX5_takes_73 rfl (by decide) (hyes _ (by unfold tkS; rw [show (rvX M).1 = 2 from hsw4, if_neg (by decide), if_pos rfl]; exact if_pos hz) _ hfr hv)
  · refine zr_tab_in (pc := 4) (tgt := 74) dX5_takes_4 (by rw [hsw4]; decide) (by rw [hsw4]; decide) (off := 70) (by rw [hsw4]; decide +kernel) (by decide) ?_
    refine zr_aload_n (pc := 74) dX5_takes_74 rfl rfl ?_
    refine zr_iload_n (pc := 75) dX5_takes_75 rfl rfl ?_
    refine zr_bipush (pc := 76) dX5_takes_76 (by decide) ?_
    refine zr_isub (pc := 78) dX5_takes_78 ?_
    refine zr_inv1I (pc := 79) rfl sX5_52 lo_3 rfl rfl rfl dX5_takes_79 ?_
    refine ct_X5_takesLayer hw (by omega) (hw.2.2.2.2.1 (Or.inl hsw4)) (fun hz M2 hfr e1 e2 e3 e4 => ?_) (fun hz M2 hfr hv => ?_)
    · exact zr_zreturn (pc := 82) dX5_takes_82 rfl (by decide) (hno (by unfold tkS; rw [show (rvX M).1 = 3 from hsw4, if_neg (by decide), if_neg (by decide), if_pos rfl]; exact if_neg hz) _ hfr)
    · exact zr_zreturn (pc := 82) dX5_takes_82 rfl (by decide) (hyes _ (by unfold tkS; rw [show (rvX M).1 = 3 from hsw4, if_neg (by decide), if_neg (by decide), if_pos rfl]; exact if_pos hz) _ hfr hv)
  · refine zr_tab_in (pc := 4) (tgt := 83) dX5_takes_4 (by rw [hsw4]; decide) (by rw [hsw4]; decide) (off := 79) (by rw [hsw4]; decide +kernel) (by decide) ?_
    refine zr_aload_n (pc := 83) dX5_takes_83 rfl rfl ?_
    refine zr_iload_n (pc := 84) dX5_takes_84 rfl rfl ?_
    refine zr_bipush (pc := 85) dX5_takes_85 (by decide) ?_
    refine zr_isub (pc := 87) dX5_takes_87 ?_
    refine zr_inv1I (pc := 88) rfl sX5_52 lo_3 rfl rfl rfl dX5_takes_88 ?_
    refine ct_X5_takesLayer hw (by omega) (hw.2.2.2.2.1 (Or.inr hsw4)) (fun hz M2 hfr e1 e2 e3 e4 => ?_) (fun hz M2 hfr hv => ?_)
    · refine zi_if_ne (pc := 91) (tgt := 102) dX5_takes_91 (by decide) (by decide) (fun h91 => ?_) (fun h91 => ?_)
      · exact absurd h91 (by decide)
      · refine zr_aload_n (pc := 94) dX5_takes_94 rfl rfl ?_
        refine zr_iload_n (pc := 95) dX5_takes_95 rfl rfl ?_
        refine zr_inv1I (pc := 96) rfl sX5_55 lo_3 rfl rfl rfl dX5_takes_96 ?_
        have er : rvX M2 = rvX M := RW_of hw (by omega) e3 e1 e2
        have hwz : RW (rvX M2) := by rw [er]; exact hw
        refine ct_X5_beginsPart hwz (by omega) (fun hb M3 hfr3 => ?_) (fun S2 hb M3 hfr3 hv3 => ?_)
        · refine zi_if_eq (pc := 99) (tgt := 106) dX5_takes_99 (by decide) (by decide) (fun h99 => ?_) (fun h99 => ?_)
          · refine zr_iconst (pc := 106) dX5_takes_106 ?_
            exact zr_zreturn (pc := 107) dX5_takes_107 rfl (by decide) (hno (by unfold tkS; rw [show (rvX M).1 = 4 from hsw4, if_neg (by decide), if_neg (by decide), if_neg (by decide), if_pos rfl]; rw [er] at hb; exact (if_neg hz).trans hb) _ (hfr.tr hfr3))
          · exact absurd h99 (by decide)
        · refine zi_if_eq (pc := 99) (tgt := 106) dX5_takes_99 (by decide) (by decide) (fun h99 => ?_) (fun h99 => ?_)
          · exact absurd h99 (by decide)
          · refine zr_iconst (pc := 102) dX5_takes_102 ?_
            refine zr_goto (pc := 103) (tgt := 107) dX5_takes_103 (by decide) ?_
            exact zr_zreturn (pc := 107) dX5_takes_107 rfl (by decide) (hyes _ (by unfold tkS; rw [show (rvX M).1 = 4 from hsw4, if_neg (by decide), if_neg (by decide), if_neg (by decide), if_pos rfl]; rw [er] at hb; exact (if_neg hz).trans hb) _ (hfr.tr hfr3) hv3)
    · refine zi_if_ne (pc := 91) (tgt := 102) dX5_takes_91 (by decide) (by decide) (fun h91 => ?_) (fun h91 => ?_)
      · refine zr_iconst (pc := 102) dX5_takes_102 ?_
        refine zr_goto (pc := 103) (tgt := 107) dX5_takes_103 (by decide) ?_
        exact zr_zreturn (pc := 107) dX5_takes_107 rfl (by decide) (hyes _ (by unfold tkS; rw [show (rvX M).1 = 4 from hsw4, if_neg (by decide), if_neg (by decide), if_neg (by decide), if_pos rfl]; exact if_pos hz) _ hfr hv)
      · exact absurd h91 (by decide)
  · refine zr_tab_in (pc := 4) (tgt := 108) dX5_takes_4 (by rw [hsw4]; decide) (by rw [hsw4]; decide) (off := 104) (by rw [hsw4]; decide +kernel) (by decide) ?_
    refine zr_aload_n (pc := 108) dX5_takes_108 rfl rfl ?_
    refine zr_iload_n (pc := 109) dX5_takes_109 rfl rfl ?_
    refine zr_bipush (pc := 110) dX5_takes_110 (by decide) ?_
    refine zr_isub (pc := 112) dX5_takes_112 ?_
    refine zr_putI (pc := 113) (z := 3) fX5_29 lo_3 rfl fwX5_3 rfl rfl dX5_takes_113 ?_
    refine zr_aload_n (pc := 116) dX5_takes_116 rfl rfl ?_
    refine zr_bipush (pc := 117) dX5_takes_117 (by decide) ?_
    refine zr_putI (pc := 119) (z := 2) fX5_25 lo_3 rfl fwX5_2 rfl rfl dX5_takes_119 ?_
    refine zr_aload_n (pc := 122) dX5_takes_122 rfl rfl ?_
    refine zr_getI (pc := 123) (z := 3) fX5_29 lo_3 rfl rfl rfl dX5_takes_123 ?_
    rw [put_ni _ _ (show (3 : Int) ≠ 2 by decide), put_at]
    refine zr_nest1I (pc := 126) rfl sX5_58 rfl rfl dX5_takes_126 ?_
    refine ct_X10_isPlace (by omega) ?_
    exact zr_zreturn (pc := 129) dX5_takes_129 rfl zb_01 (show q (zb_B (0 ≤ x - 48 ∧ x - 48 < 10)) _ by
        by_cases hp : 0 ≤ x - 48 ∧ x - 48 < 10
        · rw [show zb_B (0 ≤ x - 48 ∧ x - 48 < 10) = 1 from if_pos hp]
          exact hyes _ (by unfold tkS; rw [show (rvX M).1 = 5 from hsw4, if_neg (by decide), if_neg (by decide), if_neg (by decide), if_neg (by decide), if_pos rfl]; exact if_pos hp) _ ((frR.rf.put 3 3 _ (by decide)).put 3 2 6 (by decide)) (by unfold rvX; rw [rvX_3.1, rvX_3.1, rvX_3.2, rvX_3.2, put_at, put_ni _ _ (show (3 : Int) ≠ 2 by decide), put_at])
        · rw [show zb_B (0 ≤ x - 48 ∧ x - 48 < 10) = 0 from if_neg hp]
          exact hno (by unfold tkS; rw [show (rvX M).1 = 5 from hsw4, if_neg (by decide), if_neg (by decide), if_neg (by decide), if_neg (by decide), if_pos rfl]; exact if_neg hp) _ ((frR.rf.put 3 3 _ (by decide)).put 3 2 6 (by decide)))
  · refine zr_tab_in (pc := 4) (tgt := 130) dX5_takes_4 (by rw [hsw4]; decide) (by rw [hsw4]; decide) (off := 126) (by rw [hsw4]; decide +kernel) (by decide) ?_
    refine zr_aload_n (pc := 130) dX5_takes_130 rfl rfl ?_
    refine zr_iload_n (pc := 131) dX5_takes_131 rfl rfl ?_
    refine zr_bipush (pc := 132) dX5_takes_132 (by decide) ?_
    refine zr_isub (pc := 134) dX5_takes_134 ?_
    refine zr_inv1I (pc := 135) rfl sX5_61 lo_3 rfl rfl rfl dX5_takes_135 ?_
    refine ct_X5_takesTrampKind hw (by omega) hsw4 (fun hz => ?_) (fun hz M2 hfr hv => ?_)
    · exact zr_zreturn (pc := 138) dX5_takes_138 rfl (by decide) (hno (by unfold tkS; rw [show (rvX M).1 = 6 from hsw4, if_neg (by decide), if_neg (by decide), if_neg (by decide), if_neg (by decide), if_neg (by decide), if_pos rfl]; exact if_neg hz) _ frR.rf)
    · exact zr_zreturn (pc := 138) dX5_takes_138 rfl (by decide) (hyes _ (by unfold tkS; rw [show (rvX M).1 = 6 from hsw4, if_neg (by decide), if_neg (by decide), if_neg (by decide), if_neg (by decide), if_neg (by decide), if_pos rfl]; exact if_pos hz) _ hfr hv)
  · refine zr_tab_out (pc := 4) (tgt := 139) dX5_takes_4 (by rw [zw_id (by omega) (by omega)]; exact hsw4) (by decide) ?_
    refine zr_aload_n (pc := 139) dX5_takes_139 rfl rfl ?_
    refine zr_iload_n (pc := 140) dX5_takes_140 rfl rfl ?_
    refine zr_inv1I (pc := 141) rfl sX5_55 lo_3 rfl rfl rfl dX5_takes_141 ?_
    refine ct_X5_beginsPart hw (by omega) (fun hb M3 hfr3 => ?_) (fun S2 hb M3 hfr3 hv3 => ?_)
    · exact zr_zreturn (pc := 144) dX5_takes_144 rfl (by decide) (absurd hsw4 (by omega))
    · exact zr_zreturn (pc := 144) dX5_takes_144 rfl (by decide) (absurd hsw4 (by omega))

