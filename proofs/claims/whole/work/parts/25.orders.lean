/-! orders of layers -/
def abF (L : Ln) (g : Int) (n : Nat) (f : Int → Int) : Int → Int := fo (fun d f => upI f (L.2.2.2 g (d + 1)) (zb_or (f (L.2.2.2 g (d + 1))) (zb_shl 1 (L.2.2.2 g d)))) f n
def abv (L : Ln) (n : Nat) : Int → Int := fo (fun g f => abF L g (L.2.2.1 g - 1).toNat f) (fun _ => 0) n
def rmB (s l : Int) : Int := zb_and s (zb_xor (zb_shl 1 l) (-1))
abbrev cFo (ab : Int → Int) (l d : Int) : Prop := zb_and (ab l) d = ab l
def wyS (ab f : Int → Int) (s : Int) (n : Nat) : Int := fo (fun l u => if ¬ rmB s l = s ∧ cFo ab l (rmB s l) then u + f (rmB s l) else u) 0 n
def wyF (all : Int) (ab : Int → Int) : Nat → Int → Int
  | 0 => fun _ => 0
  | n + 1 => upI (wyF all ab n) (n : Int) (if n = 0 then 1 else if zb_and (n : Int) all = (n : Int) then wyS ab (wyF all ab n) (n : Int) 6 else 0)
def lsA (all : Int) (ab : Int → Int) (d : Int) : Nat → Int → Int
  | 0, _ => 0
  | n + 1, l => if ¬ zb_and (zb_and all (zb_xor d (-1))) (zb_shl 1 l) = 0 ∧ cFo ab l d then l else lsA all ab d n (l + 1)
def lsL (all : Int) (ab : Int → Int) : Nat → Int → Int → Int
  | 0, u, _ => u
  | n + 1, u, d => if d = all then u else lsL all ab n (10 * u + lsA all ab d 6 0 + 1) (zb_or d (zb_shl 1 (lsA all ab d 6 0)))
def aBen (v : Int) (L : Ln) : Int := if ¬ (v = 0 ∨ v = 1) then -2 else if v = 0 then wyF (bitL L) (abv L L.1.toNat) 64 (bitL L) else if wyF (bitL L) (abv L L.1.toNat) 64 (bitL L) = 0 then -9 else lsL (bitL L) (abv L L.1.toNat) 6 0 0
theorem abF_in {L : Ln} (hL : LW L) {g : Int} {f : Int → Int} (h : ∀ l, 0 ≤ f l ∧ f l < 64) (n : Nat) : ∀ l, 0 ≤ abF L g n f l ∧ abF L g n f l < 64 := by
  unfold abF
  refine fo_p (P := fun f : Int → Int => ∀ l, 0 ≤ f l ∧ f l < 64) h (fun d f _ _ hf l => ?_)
  show 0 ≤ upI f (L.2.2.2 g (d + 1)) (zb_or (f (L.2.2.2 g (d + 1))) (zb_shl 1 (L.2.2.2 g d))) l ∧ upI f (L.2.2.2 g (d + 1)) (zb_or (f (L.2.2.2 g (d + 1))) (zb_shl 1 (L.2.2.2 g d))) l < 64
  unfold upI
  split
  · have h1 := hL.2.2 g d
    exact or6 (hf _) ⟨h1.1, by omega⟩
  · exact hf l
theorem abv_in {L : Ln} (hL : LW L) (n : Nat) : ∀ l, 0 ≤ abv L n l ∧ abv L n l < 64 := by
  unfold abv
  exact fo_p (P := fun f : Int → Int => ∀ l, 0 ≤ f l ∧ f l < 64) (fun _ => (by decide : (0 : Int) ≤ 0 ∧ (0 : Int) < 64)) (fun g f _ _ hf => abF_in hL hf _)
theorem rm_ok : ∀ s : Nat, s < 64 → ∀ l : Nat, l < 6 → (0 ≤ rmB (s : Int) (l : Int) ∧ rmB (s : Int) (l : Int) ≤ (s : Int)) ∧ (rmB (s : Int) (l : Int) = (s : Int) ∨ on6 (rmB (s : Int) (l : Int)) + 1 = on6 (s : Int)) := by decide +kernel
theorem rm_i {s l : Int} (hs : 0 ≤ s ∧ s < 64) (hl : 0 ≤ l ∧ l < 6) : (0 ≤ rmB s l ∧ rmB s l ≤ s) ∧ (rmB s l = s ∨ on6 (rmB s l) + 1 = on6 s) := by
  obtain ⟨s, rfl⟩ := Int.eq_ofNat_of_zero_le hs.1
  obtain ⟨l, rfl⟩ := Int.eq_ofNat_of_zero_le hl.1
  exact rm_ok s (by omega) l (by omega)
theorem wyF_lt {all : Int} {ab : Int → Int} : ∀ (k n : Nat) (s : Int), s < n → wyF all ab (n + k) s = wyF all ab n s
  | 0, n, s, _ => rfl
  | k + 1, n, s, h => by
    show upI (wyF all ab (n + k)) ((n + k : Nat) : Int) _ s = _
    rw [upI_n (by omega)]
    exact wyF_lt k n s h
theorem wyS_in {ab f : Int → Int} {s B : Int} (hB : 0 ≤ B) (h : ∀ l, 0 ≤ l → l < 6 → ¬ rmB s l = s → 0 ≤ f (rmB s l) ∧ f (rmB s l) ≤ B) : ∀ n : Nat, n ≤ 6 → 0 ≤ wyS ab f s n ∧ wyS ab f s n ≤ B * n
  | 0, _ => ⟨Int.le_refl 0, by show (0 : Int) ≤ B * 0; omega⟩
  | n + 1, hn => by
    have h1 := wyS_in (ab := ab) hB h n (by omega)
    have e : wyS ab f s (n + 1) = (if ¬ rmB s (n : Int) = s ∧ cFo ab (n : Int) (rmB s (n : Int)) then wyS ab f s n + f (rmB s (n : Int)) else wyS ab f s n) := rfl
    have e2 : B * ((n + 1 : Nat) : Int) = B * n + B := by
      rw [show ((n + 1 : Nat) : Int) = (n : Int) + 1 from rfl, Int.mul_add, Int.mul_one]
    rw [e, e2]
    split
    · rename_i hx
      have h2 := h (n : Int) (by omega) (by omega) hx.1
      omega
    · omega
theorem p6 {k : Int} (h : 1 ≤ k) : (6 : Int) ^ (k - 1).toNat * 6 = 6 ^ k.toNat := by
  rw [← Int.pow_succ]
  congr 1
  omega
theorem wyF_in {all : Int} {ab : Int → Int} : ∀ (n : Nat), n ≤ 64 → ∀ s : Int, 0 ≤ s → s < n → 0 ≤ wyF all ab n s ∧ wyF all ab n s ≤ 6 ^ (on6 s).toNat
  | 0, _, s, h0, h1 => by omega
  | n + 1, hn, s, h0, h1 => by
    have ih := wyF_in (all := all) (ab := ab) n (by omega)
    show 0 ≤ upI (wyF all ab n) (n : Int) _ s ∧ upI (wyF all ab n) (n : Int) _ s ≤ _
    unfold upI
    by_cases hs : s = (n : Int)
    · rw [if_pos hs]
      have hp : (1 : Int) ≤ 6 ^ (on6 s).toNat := Int.pow_pos (by decide)
      split
      · exact ⟨by decide, hp⟩
      split
      · rename_i hn0 _
        subst hs
        have hon := on6_i (s := (n : Int)) ⟨by omega, by omega⟩
        have hB : (0 : Int) ≤ 6 ^ (on6 (n : Int) - 1).toNat := Int.le_of_lt (Int.pow_pos (by decide))
        have key := wyS_in (ab := ab) (f := wyF all ab n) (s := (n : Int)) hB (fun l a b c => by
          have hr := rm_i (s := (n : Int)) ⟨by omega, by omega⟩ ⟨a, b⟩
          have hi := ih (rmB (n : Int) l) hr.1.1 (by omega)
          have e3 : on6 (rmB (n : Int) l) = on6 (n : Int) - 1 := by omega
          rw [e3] at hi
          exact hi) 6 (by decide)
        by_cases hz : on6 (n : Int) = 0
        · rw [hz] at key ⊢
          refine ⟨key.1, ?_⟩
          have e9 : wyS ab (wyF all ab n) (n : Int) 6 = 0 := by
            unfold wyS
            refine fo_p (P := fun u : Int => u = 0) rfl (fun i b g0 g1 hb => ?_)
            have hr := rm_i (s := (n : Int)) (l := i) ⟨by omega, by omega⟩ ⟨g0, by omega⟩
            have hq := on6_i (s := rmB (n : Int) i) ⟨hr.1.1, by omega⟩
            show (if ¬ rmB (n : Int) i = (n : Int) ∧ cFo ab i (rmB (n : Int) i) then b + wyF all ab n (rmB (n : Int) i) else b) = 0
            rw [if_neg (fun x => by have := x.1; omega)]
            exact hb
          rw [e9]
          decide
        · have e4 := p6 (k := on6 (n : Int)) (by omega)
          have e5 : (6 : Int) ^ (on6 (n : Int) - 1).toNat * ((6 : Nat) : Int) = 6 ^ (on6 (n : Int)).toNat := e4
          rw [e5] at key
          exact key
      · exact ⟨Int.le_refl 0, Int.le_of_lt (by omega)⟩
    · rw [if_neg hs]
      exact ih s h0 (by omega)
theorem w6 {s : Int} (h : 0 ≤ s ∧ s < 64) : (6 : Int) ^ (on6 s).toNat ≤ 46656 := by
  have hon := on6_i h
  rcases (by omega : (on6 s).toNat = 0 ∨ (on6 s).toNat = 1 ∨ (on6 s).toNat = 2 ∨ (on6 s).toNat = 3 ∨ (on6 s).toNat = 4 ∨ (on6 s).toNat = 5 ∨ (on6 s).toNat = 6) with e | e | e | e | e | e | e <;> rw [e] <;> decide
theorem lsA_in {all d : Int} {ab : Int → Int} : ∀ (n : Nat) (l : Int), 0 ≤ l → l + n ≤ 6 → 0 ≤ lsA all ab d n l ∧ lsA all ab d n l < 6
  | 0, l, _, _ => ⟨by show (0 : Int) ≤ 0; decide, by show (0 : Int) < 6; decide⟩
  | n + 1, l, h0, h1 => by
    unfold lsA
    split
    · omega
    · exact lsA_in n (l + 1) (by omega) (by omega)
theorem xa_ok : ∀ a : Nat, a < 64 → ∀ d : Nat, d < 64 → 0 ≤ zb_and (a : Int) (zb_xor (d : Int) (-1)) ∧ zb_and (a : Int) (zb_xor (d : Int) (-1)) < 64 := by decide +kernel
theorem xa6 {a d : Int} (ha : 0 ≤ a ∧ a < 64) (hd : 0 ≤ d ∧ d < 64) : 0 ≤ zb_and a (zb_xor d (-1)) ∧ zb_and a (zb_xor d (-1)) < 64 := by
  obtain ⟨a, rfl⟩ := Int.eq_ofNat_of_zero_le ha.1
  obtain ⟨d, rfl⟩ := Int.eq_ofNat_of_zero_le hd.1
  exact xa_ok a (by omega) d (by omega)
theorem xa6b {a l : Int} (ha : 0 ≤ a ∧ a < 64) (hl : 0 ≤ l ∧ l < 6) : 0 ≤ zb_and a (zb_shl 1 l) ∧ zb_and a (zb_shl 1 l) < 64 := (and6 ha hl).2
set_option maxRecDepth 100000 in
set_option maxHeartbeats 4000000 in
theorem ct_X4_canFollow {g : zt_G} {M : zm_M} {q : Int → zm_M → Prop} {ab : Int → Int} (hab : ∀ l, 0 ≤ l → l < 6 → M 40 l = ab l) (hai : ∀ l, 0 ≤ ab l ∧ ab l < 64) {l d : Int} (hl : 0 ≤ l ∧ l < 6) (hd : 0 ≤ d ∧ d < 64) (h : q (zb_B (cFo ab l d)) M) : zc_K g yX4_canFollow mX4_canFollow [zv_r 39, zv_i l, zv_i d] M (zq_I q) := by
  refine zc_of (ls := [some (zv_r 39), some (zv_i l), some (zv_i d)]) (by decide) rfl ⟨rfl, rfl⟩ (Nat.le_of_ble_eq_true rfl) rfl ?_
  have e1 := hab l hl.1 hl.2
  have e2 := hai l
  have e3 := aa6 e2 hd
  refine zr_aload_n (pc := 0) dX4_canFollow_0 rfl rfl ?_
  refine zr_getR (pc := 1) fX4_9 lo_39 rfl rfl dX4_canFollow_1 ?_
  refine zr_iload_n (pc := 4) dX4_canFollow_4 rfl rfl ?_
  refine zr_iaload (pc := 5) lo_40 (by omega) dX4_canFollow_5 ?_
  rw [e1]
  refine zr_iload_n (pc := 6) dX4_canFollow_6 rfl rfl ?_
  refine zr_iand (pc := 7) dX4_canFollow_7 ?_
  refine zr_aload_n (pc := 8) dX4_canFollow_8 rfl rfl ?_
  refine zr_getR (pc := 9) fX4_9 lo_39 rfl rfl dX4_canFollow_9 ?_
  refine zr_iload_n (pc := 12) dX4_canFollow_12 rfl rfl ?_
  refine zr_iaload (pc := 13) lo_40 (by omega) dX4_canFollow_13 ?_
  rw [e1]
  refine zi_icmp_ne (pc := 14) (tgt := 21) dX4_canFollow_14 (by decide) (by omega) (by omega) (fun h14 => ?_) (fun h14 => ?_)
  · refine zr_iconst (pc := 21) dX4_canFollow_21 ?_
    exact zr_zreturn (pc := 22) dX4_canFollow_22 rfl (by decide) (zq_eq h (zb_F h14))
  · refine zr_iconst (pc := 17) dX4_canFollow_17 ?_
    refine zr_goto (pc := 18) (tgt := 22) dX4_canFollow_18 (by decide) ?_
    exact zr_zreturn (pc := 22) dX4_canFollow_22 rfl (by decide) (zq_eq h (zb_T h14))

set_option maxRecDepth 100000 in
set_option maxHeartbeats 4000000 in
theorem lp_X4_waysTo {g : zt_G} {M : zm_M} {q : Int → zm_M → Prop} {ab f : Int → Int} (hab : ∀ l, 0 ≤ l → l < 6 → M 40 l = ab l) (hai : ∀ l, 0 ≤ ab l ∧ ab l < 64) {s : Int} (hs : 0 < s ∧ s < 64) (hf : ∀ t, 0 ≤ t → t < s → M 41 t = f t) (h : q (wyS ab f s 6) M) : ∀ (nn : Nat) (u l : Int) (x4 : Option zv_A), (6 - l).toNat = nn → 0 ≤ l → l ≤ 6 → u = wyS ab f s l.toNat → zc_Z g mX4_waysTo 4 [some (zv_r 39), some (zv_i s), some (zv_i u), some (zv_i l), x4] [] M (zq_I q) := by
  intro nn
  induction nn using Nat.strongRecOn with
  | ind nn ih =>
    intro u l x4 hn h0 h1 hu
    refine zr_iload_n (pc := 4) dX4_waysTo_4 rfl rfl ?_
    refine zr_bipush (pc := 5) dX4_waysTo_5 (by decide) ?_
    refine zi_icmp_ge (pc := 7) (tgt := 51) dX4_waysTo_7 (by decide) (by omega) (by omega) (fun h7 => ?_) (fun h7 => ?_)
    · refine zr_iload_n (pc := 51) dX4_waysTo_51 rfl rfl ?_
      exact zr_ireturn (pc := 52) dX4_waysTo_52 rfl (zq_eq h (by rw [hu, show l = 6 by omega]; rfl))
    · have hr := rm_i (s := s) (l := l) (by omega) ⟨h0, by omega⟩
      have hst : wyS ab f s (l + 1).toNat = if ¬ rmB s l = s ∧ cFo ab l (rmB s l) then u + f (rmB s l) else u := by
        rw [hu]
        unfold wyS
        rw [fo_s h0]
      refine zr_iload_n (pc := 10) dX4_waysTo_10 rfl rfl ?_
      refine zr_iconst (pc := 11) dX4_waysTo_11 ?_
      refine zr_iload_n (pc := 12) dX4_waysTo_12 rfl rfl ?_
      refine zr_ishl (pc := 13) dX4_waysTo_13 ?_
      refine zr_iconst (pc := 14) dX4_waysTo_14 ?_
      refine zr_ixor (pc := 15) dX4_waysTo_15 ?_
      refine zr_iand (pc := 16) dX4_waysTo_16 ?_
      rw [show zb_and s (zb_xor (zb_shl 1 l) (-1)) = rmB s l from rfl]
      refine zr_istore (pc := 17) dX4_waysTo_17 (Nat.le_of_ble_eq_true rfl) rfl ?_
      refine zr_iload (pc := 19) dX4_waysTo_19 rfl ?_
      refine zr_iload_n (pc := 21) dX4_waysTo_21 rfl rfl ?_
      refine zi_icmp_eq (pc := 22) (tgt := 45) dX4_waysTo_22 (by decide) (by omega) (by omega) (fun h22 => ?_) (fun h22 => ?_)
      · refine zr_iinc (pc := 45) dX4_waysTo_45 rfl (Nat.le_of_ble_eq_true rfl) rfl ?_
        refine zr_goto (pc := 48) (tgt := 4) dX4_waysTo_48 (by decide) ?_
        rw [if_neg (fun y => y.1 h22)] at hst
        exact ih _ (by omega) _ _ _ rfl (by omega) (by omega) (by rw [hst])
      · refine zr_aload_n (pc := 25) dX4_waysTo_25 rfl rfl ?_
        refine zr_iload_n (pc := 26) dX4_waysTo_26 rfl rfl ?_
        refine zr_iload (pc := 27) dX4_waysTo_27 rfl ?_
        refine zr_inv2I (pc := 29) rfl sX4_42 lo_39 rfl rfl rfl dX4_waysTo_29 ?_
        refine ct_X4_canFollow hab hai ⟨h0, by omega⟩ (by omega) ?_
        refine zr_ifb_eq (pc := 32) (tgt := 45) dX4_waysTo_32 (by decide) (fun h32 => ?_) (fun h32 => ?_)
        · refine zr_iinc (pc := 45) dX4_waysTo_45 rfl (Nat.le_of_ble_eq_true rfl) rfl ?_
          refine zr_goto (pc := 48) (tgt := 4) dX4_waysTo_48 (by decide) ?_
          rw [if_neg (fun y => h32 y.2)] at hst
          exact ih _ (by omega) _ _ _ rfl (by omega) (by omega) (by rw [hst])
        · refine zr_iload_n (pc := 35) dX4_waysTo_35 rfl rfl ?_
          refine zr_aload_n (pc := 36) dX4_waysTo_36 rfl rfl ?_
          refine zr_getR (pc := 37) fX4_15 lo_39 rfl rfl dX4_waysTo_37 ?_
          refine zr_iload (pc := 40) dX4_waysTo_40 rfl ?_
          refine zr_iaload (pc := 42) lo_41 (by omega) dX4_waysTo_42 ?_
          refine zr_iadd (pc := 43) dX4_waysTo_43 ?_
          refine zr_istore_n (pc := 44) dX4_waysTo_44 rfl (Nat.le_of_ble_eq_true rfl) rfl ?_
          refine zr_iinc (pc := 45) dX4_waysTo_45 rfl (Nat.le_of_ble_eq_true rfl) rfl ?_
          refine zr_goto (pc := 48) (tgt := 4) dX4_waysTo_48 (by decide) ?_
          rw [if_pos ⟨h22, h32⟩] at hst
          exact ih _ (by omega) _ _ _ rfl (by omega) (by omega) (by rw [hst, hf _ hr.1.1 (by omega)])

set_option maxRecDepth 100000 in
set_option maxHeartbeats 4000000 in
theorem ct_X4_waysTo {g : zt_G} {M : zm_M} {q : Int → zm_M → Prop} {ab f : Int → Int} (hab : ∀ l, 0 ≤ l → l < 6 → M 40 l = ab l) (hai : ∀ l, 0 ≤ ab l ∧ ab l < 64) {s : Int} (hs : 0 < s ∧ s < 64) (hf : ∀ t, 0 ≤ t → t < s → M 41 t = f t) (h : q (wyS ab f s 6) M) : zc_K g yX4_waysTo mX4_waysTo [zv_r 39, zv_i s] M (zq_I q) := by
  refine zc_of (ls := [some (zv_r 39), some (zv_i s), none, none, none]) (by decide) rfl ⟨rfl, rfl⟩ (Nat.le_of_ble_eq_true rfl) rfl ?_
  refine zr_iconst (pc := 0) dX4_waysTo_0 ?_
  refine zr_istore_n (pc := 1) dX4_waysTo_1 rfl (Nat.le_of_ble_eq_true rfl) rfl ?_
  refine zr_iconst (pc := 2) dX4_waysTo_2 ?_
  refine zr_istore_n (pc := 3) dX4_waysTo_3 rfl (Nat.le_of_ble_eq_true rfl) rfl ?_
  exact lp_X4_waysTo hab hai hs hf h _ _ _ _ rfl (by omega) (by omega) rfl

set_option maxRecDepth 100000 in
set_option maxHeartbeats 4000000 in
theorem lp_X4_leastAfter {g : zt_G} {M : zm_M} {q : Int → zm_M → Prop} {ab : Int → Int} {all : Int} (hab : ∀ l, 0 ≤ l → l < 6 → M 40 l = ab l) (hai : ∀ l, 0 ≤ ab l ∧ ab l < 64) (hall : M 39 2 = all) (ha6 : 0 ≤ all ∧ all < 64) {d : Int} (hd : 0 ≤ d ∧ d < 64) : ∀ (nn : Nat) (l : Int), (6 - l).toNat = nn → 0 ≤ l → l ≤ 6 → q (lsA all ab d (6 - l).toNat l) M → zc_Z g mX4_leastAfter 2 [some (zv_r 39), some (zv_i d), some (zv_i l)] [] M (zq_I q) := by
  intro nn
  induction nn using Nat.strongRecOn with
  | ind nn ih =>
    intro l hn h0 h1 h
    refine zr_iload_n (pc := 2) dX4_leastAfter_2 rfl rfl ?_
    refine zr_bipush (pc := 3) dX4_leastAfter_3 (by decide) ?_
    refine zi_icmp_ge (pc := 5) (tgt := 40) dX4_leastAfter_5 (by decide) (by omega) (by omega) (fun h5 => ?_) (fun h5 => ?_)
    · refine zr_iconst (pc := 40) dX4_leastAfter_40 ?_
      exact zr_ireturn (pc := 41) dX4_leastAfter_41 rfl (zq_eq h (by rw [show (6 - l).toNat = 0 by omega]; rfl))
    · rw [show (6 - l).toNat = (6 - (l + 1)).toNat + 1 by omega] at h
      unfold lsA at h
      have hxa := xa6 ha6 hd
      have hxb := xa6b hxa (l := l) ⟨h0, by omega⟩
      refine zr_aload_n (pc := 8) dX4_leastAfter_8 rfl rfl ?_
      refine zr_getI (pc := 9) (z := 2) fX4_18 lo_39 rfl rfl rfl dX4_leastAfter_9 ?_
      rw [hall]
      refine zr_iload_n (pc := 12) dX4_leastAfter_12 rfl rfl ?_
      refine zr_iconst (pc := 13) dX4_leastAfter_13 ?_
      refine zr_ixor (pc := 14) dX4_leastAfter_14 ?_
      refine zr_iand (pc := 15) dX4_leastAfter_15 ?_
      refine zr_iconst (pc := 16) dX4_leastAfter_16 ?_
      refine zr_iload_n (pc := 17) dX4_leastAfter_17 rfl rfl ?_
      refine zr_ishl (pc := 18) dX4_leastAfter_18 ?_
      refine zr_iand (pc := 19) dX4_leastAfter_19 ?_
      refine zi_if_eq (pc := 20) (tgt := 34) dX4_leastAfter_20 (by decide) (by omega) (fun h20 => ?_) (fun h20 => ?_)
      · rw [if_neg (fun y => y.1 h20)] at h
        refine zr_iinc (pc := 34) dX4_leastAfter_34 rfl (Nat.le_of_ble_eq_true rfl) rfl ?_
        refine zr_goto (pc := 37) (tgt := 2) dX4_leastAfter_37 (by decide) ?_
        exact ih _ (by omega) _ rfl (by omega) (by omega) h
      · refine zr_aload_n (pc := 23) dX4_leastAfter_23 rfl rfl ?_
        refine zr_iload_n (pc := 24) dX4_leastAfter_24 rfl rfl ?_
        refine zr_iload_n (pc := 25) dX4_leastAfter_25 rfl rfl ?_
        refine zr_inv2I (pc := 26) rfl sX4_42 lo_39 rfl rfl rfl dX4_leastAfter_26 ?_
        refine ct_X4_canFollow hab hai ⟨h0, by omega⟩ hd ?_
        refine zr_ifb_eq (pc := 29) (tgt := 34) dX4_leastAfter_29 (by decide) (fun h29 => ?_) (fun h29 => ?_)
        · rw [if_neg (fun y => h29 y.2)] at h
          refine zr_iinc (pc := 34) dX4_leastAfter_34 rfl (Nat.le_of_ble_eq_true rfl) rfl ?_
          refine zr_goto (pc := 37) (tgt := 2) dX4_leastAfter_37 (by decide) ?_
          exact ih _ (by omega) _ rfl (by omega) (by omega) h
        · refine zr_iload_n (pc := 32) dX4_leastAfter_32 rfl rfl ?_
          exact zr_ireturn (pc := 33) dX4_leastAfter_33 rfl (zq_eq h (by rw [if_pos ⟨h20, h29⟩]))

set_option maxRecDepth 100000 in
set_option maxHeartbeats 4000000 in
theorem ct_X4_leastAfter {g : zt_G} {M : zm_M} {q : Int → zm_M → Prop} {ab : Int → Int} {all : Int} (hab : ∀ l, 0 ≤ l → l < 6 → M 40 l = ab l) (hai : ∀ l, 0 ≤ ab l ∧ ab l < 64) (hall : M 39 2 = all) (ha6 : 0 ≤ all ∧ all < 64) {d : Int} (hd : 0 ≤ d ∧ d < 64) (h : q (lsA all ab d 6 0) M) : zc_K g yX4_leastAfter mX4_leastAfter [zv_r 39, zv_i d] M (zq_I q) := by
  refine zc_of (ls := [some (zv_r 39), some (zv_i d), none]) (by decide) rfl ⟨rfl, rfl⟩ (Nat.le_of_ble_eq_true rfl) rfl ?_
  refine zr_iconst (pc := 0) dX4_leastAfter_0 ?_
  refine zr_istore_n (pc := 1) dX4_leastAfter_1 rfl (Nat.le_of_ble_eq_true rfl) rfl ?_
  exact lp_X4_leastAfter hab hai hall ha6 hd _ _ rfl (by omega) (by omega) h

set_option maxRecDepth 100000 in
set_option maxHeartbeats 4000000 in
theorem ct_X4_howMany {g : zt_G} {M : zm_M} {q : Int → zm_M → Prop} (ha6 : 0 ≤ M 39 2 ∧ M 39 2 < 64) (h : q (M 41 (M 39 2)) M) : zc_K g yX4_howMany mX4_howMany [zv_r 39] M (zq_I q) := by
  refine zc_of (ls := [some (zv_r 39)]) (by decide) rfl ⟨rfl, rfl⟩ (Nat.le_of_ble_eq_true rfl) rfl ?_
  refine zr_aload_n (pc := 0) dX4_howMany_0 rfl rfl ?_
  refine zr_getR (pc := 1) fX4_15 lo_39 rfl rfl dX4_howMany_1 ?_
  refine zr_aload_n (pc := 4) dX4_howMany_4 rfl rfl ?_
  refine zr_getI (pc := 5) (z := 2) fX4_18 lo_39 rfl rfl rfl dX4_howMany_5 ?_
  refine zr_iaload (pc := 8) lo_41 (by omega) dX4_howMany_8 ?_
  exact zr_ireturn (pc := 9) dX4_howMany_9 rfl (zq_eq h rfl)

theorem lsL_s (all : Int) (ab : Int → Int) (n : Nat) (u d : Int) : lsL all ab (n + 1) u d = if d = all then u else lsL all ab n (10 * u + lsA all ab d 6 0 + 1) (zb_or d (zb_shl 1 (lsA all ab d 6 0))) := rfl
set_option maxRecDepth 100000 in
set_option maxHeartbeats 4000000 in
theorem lp_X4_least {g : zt_G} {M : zm_M} {q : Int → zm_M → Prop} {ab : Int → Int} {all : Int} (hab : ∀ l, 0 ≤ l → l < 6 → M 40 l = ab l) (hai : ∀ l, 0 ≤ ab l ∧ ab l < 64) (hall : M 39 2 = all) (ha6 : 0 ≤ all ∧ all < 64) (h : q (lsL all ab 6 0 0) M) : ∀ (nn : Nat) (u d k : Int) (x4 : Option zv_A), (6 - k).toNat = nn → 0 ≤ k → k ≤ 6 → (0 ≤ d ∧ d < 64) → lsL all ab (6 - k).toNat u d = lsL all ab 6 0 0 → zc_Z g mX4_least 6 [some (zv_r 39), some (zv_i u), some (zv_i d), some (zv_i k), x4] [] M (zq_I q) := by
  intro nn
  induction nn using Nat.strongRecOn with
  | ind nn ih =>
    intro u d k x4 hn h0 h1 hd hL
    refine zr_iload_n (pc := 6) dX4_least_6 rfl rfl ?_
    refine zr_bipush (pc := 7) dX4_least_7 (by decide) ?_
    refine zi_icmp_ge (pc := 9) (tgt := 50) dX4_least_9 (by decide) (by omega) (by omega) (fun h9 => ?_) (fun h9 => ?_)
    · refine zr_iload_n (pc := 50) dX4_least_50 rfl rfl ?_
      exact zr_ireturn (pc := 51) dX4_least_51 rfl (zq_eq h (by rw [← hL, show (6 - k).toNat = 0 by omega]; rfl))
    · rw [show (6 - k).toNat = (6 - (k + 1)).toNat + 1 by omega, lsL_s] at hL
      refine zr_iload_n (pc := 12) dX4_least_12 rfl rfl ?_
      refine zr_aload_n (pc := 13) dX4_least_13 rfl rfl ?_
      refine zr_getI (pc := 14) (z := 2) fX4_18 lo_39 rfl rfl rfl dX4_least_14 ?_
      rw [hall]
      refine zi_icmp_eq (pc := 17) (tgt := 50) dX4_least_17 (by decide) (by omega) (by omega) (fun h17 => ?_) (fun h17 => ?_)
      · refine zr_iload_n (pc := 50) dX4_least_50 rfl rfl ?_
        exact zr_ireturn (pc := 51) dX4_least_51 rfl (zq_eq h (by rw [← hL, if_pos h17]))
      · rw [if_neg h17] at hL
        have hls := lsA_in (all := all) (ab := ab) (d := d) 6 0 (by decide) (by decide)
        refine zr_aload_n (pc := 20) dX4_least_20 rfl rfl ?_
        refine zr_iload_n (pc := 21) dX4_least_21 rfl rfl ?_
        refine zr_inv1I (pc := 22) rfl sX4_46 lo_39 rfl rfl rfl dX4_least_22 ?_
        refine ct_X4_leastAfter hab hai hall ha6 hd ?_
        refine zr_istore (pc := 25) dX4_least_25 (Nat.le_of_ble_eq_true rfl) rfl ?_
        refine zr_bipush (pc := 27) dX4_least_27 (by decide) ?_
        refine zr_iload_n (pc := 29) dX4_least_29 rfl rfl ?_
        refine zr_imul (pc := 30) dX4_least_30 ?_
        refine zr_iload (pc := 31) dX4_least_31 rfl ?_
        refine zr_iadd (pc := 33) dX4_least_33 ?_
        refine zr_iconst (pc := 34) dX4_least_34 ?_
        refine zr_iadd (pc := 35) dX4_least_35 ?_
        refine zr_istore_n (pc := 36) dX4_least_36 rfl (Nat.le_of_ble_eq_true rfl) rfl ?_
        refine zr_iload_n (pc := 37) dX4_least_37 rfl rfl ?_
        refine zr_iconst (pc := 38) dX4_least_38 ?_
        refine zr_iload (pc := 39) dX4_least_39 rfl ?_
        refine zr_ishl (pc := 41) dX4_least_41 ?_
        refine zr_ior (pc := 42) dX4_least_42 ?_
        refine zr_istore_n (pc := 43) dX4_least_43 rfl (Nat.le_of_ble_eq_true rfl) rfl ?_
        refine zr_iinc (pc := 44) dX4_least_44 rfl (Nat.le_of_ble_eq_true rfl) rfl ?_
        refine zr_goto (pc := 47) (tgt := 6) dX4_least_47 (by decide) ?_
        exact ih _ (by omega) _ _ _ _ rfl (by omega) (by omega) (or6 hd hls) hL

set_option maxRecDepth 100000 in
set_option maxHeartbeats 4000000 in
theorem ct_X4_least {g : zt_G} {M : zm_M} {q : Int → zm_M → Prop} {ab : Int → Int} {all : Int} (hab : ∀ l, 0 ≤ l → l < 6 → M 40 l = ab l) (hai : ∀ l, 0 ≤ ab l ∧ ab l < 64) (hall : M 39 2 = all) (ha6 : 0 ≤ all ∧ all < 64) (h : q (lsL all ab 6 0 0) M) : zc_K g yX4_least mX4_least [zv_r 39] M (zq_I q) := by
  refine zc_of (ls := [some (zv_r 39), none, none, none, none]) (by decide) rfl ⟨rfl, rfl⟩ (Nat.le_of_ble_eq_true rfl) rfl ?_
  refine zr_iconst (pc := 0) dX4_least_0 ?_
  refine zr_istore_n (pc := 1) dX4_least_1 rfl (Nat.le_of_ble_eq_true rfl) rfl ?_
  refine zr_iconst (pc := 2) dX4_least_2 ?_
  refine zr_istore_n (pc := 3) dX4_least_3 rfl (Nat.le_of_ble_eq_true rfl) rfl ?_
  refine zr_iconst (pc := 4) dX4_least_4 ?_
  refine zr_istore_n (pc := 5) dX4_least_5 rfl (Nat.le_of_ble_eq_true rfl) rfl ?_
  exact lp_X4_least hab hai hall ha6 h _ _ _ _ _ rfl (by omega) (by omega) (by omega) rfl

set_option maxRecDepth 100000 in
set_option maxHeartbeats 4000000 in
theorem lp_X4_look4 {g : zt_G} {M : zm_M} {q : zm_M → Prop} {L : Ln} (hl : lvX M 13 = L) (hL : LW L) (h : ∀ M2, (∀ (k : Nat) (i : Int), (k < 39 ∨ 41 < k) → M2 k i = M k i) → M2 39 2 = bitL L → (∀ l, 0 ≤ l → l < 6 → M2 40 l = abv L L.1.toNat l) → (∀ s, 0 ≤ s → s < 64 → M2 41 s = wyF (bitL L) (abv L L.1.toNat) 64 s) → q M2) : ∀ (nn : Nat) (s : Int) (x3 : Option zv_A) (Mx : zm_M), (64 - s).toNat = nn → 1 ≤ s → s ≤ 64 → (∀ (k : Nat) (i : Int), (k < 39 ∨ 41 < k) → Mx k i = M k i) → Mx 39 2 = bitL L → (∀ l, 0 ≤ l → l < 6 → Mx 40 l = abv L L.1.toNat l) → (∀ t, 0 ≤ t → t < s → Mx 41 t = wyF (bitL L) (abv L L.1.toNat) s.toNat t) → zc_Z g mX4_look 96 [some (zv_r 39), some (zv_r 13), some (zv_i s), x3] [] Mx (zq_V q) := by
  intro nn
  induction nn using Nat.strongRecOn with
  | ind nn ih =>
    intro s x3 Mx hnn h0 h1 hfr ha hb hwy
    have hlx : lvX Mx 13 = L := by rw [lvX_fr (fun k i a b => hfr k i (by omega)), hl]
    have hLx : LW (lvX Mx 13) := by rw [hlx]; exact hL
    have hk0 := yXk hLx
    have ek : Mx 13 3 = L.1 := by rw [← hlx]; rfl
    have hb6 := bitL_in hL
    refine zr_iload_n (pc := 96) dX4_look_96 rfl rfl ?_
    refine zr_bipush (pc := 97) dX4_look_97 (by decide) ?_
    refine zi_icmp_ge (pc := 99) (tgt := 133) dX4_look_99 (by decide) (by omega) (by omega) (fun h99 => ?_) (fun h99 => ?_)
    · exact zr_return (pc := 133) dX4_look_133 rfl (h _ hfr ha hb (fun t a b => by rw [hwy t a (by omega), show s = 64 by omega]; rfl))
    · refine zr_aload_n (pc := 102) dX4_look_102 rfl rfl ?_
      refine zr_getR (pc := 103) fX4_15 lo_39 rfl rfl dX4_look_103 ?_
      refine zr_iload_n (pc := 106) dX4_look_106 rfl rfl ?_
      refine zr_iload_n (pc := 107) dX4_look_107 rfl rfl ?_
      refine zr_aload_n (pc := 108) dX4_look_108 rfl rfl ?_
      refine zr_getI (pc := 109) (z := 2) fX4_18 lo_39 rfl rfl rfl dX4_look_109 ?_
      rw [ha]
      have haa := aa6 (a := s) (b := bitL L) (by omega) hb6
      have hst : ∀ v, (if s.toNat = 0 then 1 else if zb_and s (bitL L) = s then wyS (abv L L.1.toNat) (wyF (bitL L) (abv L L.1.toNat) s.toNat) s 6 else 0) = v → ∀ t, 0 ≤ t → t < s + 1 → zm_put Mx 41 s v 41 t = wyF (bitL L) (abv L L.1.toNat) (s + 1).toNat t := by
        intro v ev t t0 t1
        rw [show (s + 1).toNat = s.toNat + 1 by omega]
        show _ = upI _ _ _ _
        rw [Int.toNat_of_nonneg (by omega)]
        by_cases hts : t = s
        · subst hts
          rw [put_at, upI_s, ev]
        · rw [put_ni _ _ hts, upI_n hts]
          exact hwy t t0 (by omega)
      refine zr_iand (pc := 112) dX4_look_112 ?_
      refine zr_iload_n (pc := 113) dX4_look_113 rfl rfl ?_
      refine zi_icmp_ne (pc := 114) (tgt := 125) dX4_look_114 (by decide) (by omega) (by omega) (fun h114 => ?_) (fun h114 => ?_)
      · refine zr_iconst (pc := 125) dX4_look_125 ?_
        refine zr_iastore (pc := 126) lo_41 (by omega) dX4_look_126 ?_
        refine zr_iinc (pc := 127) dX4_look_127 rfl (Nat.le_of_ble_eq_true rfl) rfl ?_
        refine zr_goto (pc := 130) (tgt := 96) dX4_look_130 (by decide) ?_
        exact ih _ (by omega) _ _ _ rfl (by omega) (by omega) (fun k i a => by rw [put_nk _ _ _ _ (by omega)]; exact hfr k i a) (by rw [put_nk _ _ _ _ (by decide)]; exact ha) (fun l a b => by rw [put_nk _ _ _ _ (by decide)]; exact hb l a b) (hst _ (by rw [if_neg (by omega), if_neg h114]))
      · refine zr_aload_n (pc := 117) dX4_look_117 rfl rfl ?_
        refine zr_iload_n (pc := 118) dX4_look_118 rfl rfl ?_
        refine zr_inv1I (pc := 119) rfl sX4_38 lo_39 rfl rfl rfl dX4_look_119 ?_
        refine ct_X4_waysTo hb (abv_in hL _) (by omega) hwy ?_
        refine zr_goto (pc := 122) (tgt := 126) dX4_look_122 (by decide) ?_
        refine zr_iastore (pc := 126) lo_41 (by omega) dX4_look_126 ?_
        refine zr_iinc (pc := 127) dX4_look_127 rfl (Nat.le_of_ble_eq_true rfl) rfl ?_
        refine zr_goto (pc := 130) (tgt := 96) dX4_look_130 (by decide) ?_
        exact ih _ (by omega) _ _ _ rfl (by omega) (by omega) (fun k i a => by rw [put_nk _ _ _ _ (by omega)]; exact hfr k i a) (by rw [put_nk _ _ _ _ (by decide)]; exact ha) (fun l a b => by rw [put_nk _ _ _ _ (by decide)]; exact hb l a b) (hst _ (by rw [if_neg (by omega), if_pos h114]))

set_option maxRecDepth 100000 in
set_option maxHeartbeats 4000000 in
theorem lp_X4_look3 {g : zt_G} {M : zm_M} {q : zm_M → Prop} {L : Ln} (hl : lvX M 13 = L) (hL : LW L) (h : ∀ M2, (∀ (k : Nat) (i : Int), (k < 39 ∨ 41 < k) → M2 k i = M k i) → M2 39 2 = bitL L → (∀ l, 0 ≤ l → l < 6 → M2 40 l = abv L L.1.toNat l) → (∀ s, 0 ≤ s → s < 64 → M2 41 s = wyF (bitL L) (abv L L.1.toNat) 64 s) → q M2) {k : Int} (hk : 0 ≤ k ∧ k < L.1) (ho : ∀ (x3 : Option zv_A) (Mx : zm_M), (∀ (k : Nat) (i : Int), (k < 39 ∨ 41 < k) → Mx k i = M k i) → Mx 39 2 = bitL L → (∀ l, 0 ≤ l → l < 6 → Mx 40 l = abv L (k + 1).toNat l) → zc_Z g mX4_look 31 [some (zv_r 39), some (zv_r 13), some (zv_i (k + 1)), x3] [] Mx (zq_V q)) : ∀ (nn : Nat) (d : Int) (Mx : zm_M), (M 15 k - d).toNat = nn → 1 ≤ d → (d ≤ M 15 k ∨ d = 1) → (∀ (k : Nat) (i : Int), (k < 39 ∨ 41 < k) → Mx k i = M k i) → Mx 39 2 = bitL L → (∀ l, 0 ≤ l → l < 6 → Mx 40 l = abF L k (d - 1).toNat (abv L k.toNat) l) → zc_Z g mX4_look 41 [some (zv_r 39), some (zv_r 13), some (zv_i k), some (zv_i d)] [] Mx (zq_V q) := by
  intro nn
  induction nn using Nat.strongRecOn with
  | ind nn ih =>
    intro d Mx hnn h0 h1 hfr ha hb
    have hlx : lvX Mx 13 = L := by rw [lvX_fr (fun k i a b => hfr k i (by omega)), hl]
    have hLx : LW (lvX Mx 13) := by rw [hlx]; exact hL
    have hk0 := yXk hLx
    have ek : Mx 13 3 = L.1 := by rw [← hlx]; rfl
    have hb6 := bitL_in hL
    have hyk : (0 ≤ Mx 14 k ∧ Mx 14 k ≤ 9) ∧ (0 ≤ Mx 15 k ∧ Mx 15 k ≤ 4) := yX hLx (by omega)
    have e15 : Mx 15 k = M 15 k := hfr 15 k (by decide)
    have ed : L.2.2.1 k = Mx 15 k := by
      rw [← hlx]
      exact lX_d (by omega)
    refine zr_iload_n (pc := 41) dX4_look_41 rfl rfl ?_
    refine zr_aload_n (pc := 42) dX4_look_42 rfl rfl ?_
    refine zr_getR (pc := 43) fX4_31 lo_13 rfl rfl dX4_look_43 ?_
    refine zr_iload_n (pc := 46) dX4_look_46 rfl rfl ?_
    refine zr_iaload (pc := 47) lo_15 (by omega) dX4_look_47 ?_
    refine zi_icmp_ge (pc := 48) (tgt := 81) dX4_look_48 (by decide) (by omega) (by omega) (fun h48 => ?_) (fun h48 => ?_)
    · refine zr_iinc (pc := 81) dX4_look_81 rfl (Nat.le_of_ble_eq_true rfl) rfl ?_
      refine zr_goto (pc := 84) (tgt := 31) dX4_look_84 (by decide) ?_
      exact ho _ _ hfr ha (fun l a b => by rw [hb l a b]; unfold abv; rw [fo_s hk.1, ed]; congr 1; omega)
    · have hy1 : 0 ≤ Mx 16 (k * 4 + d) ∧ Mx 16 (k * 4 + d) ≤ 5 := yXl hLx (g := k) (k := d) (by omega) ⟨by omega, by show d < Mx 15 k; omega⟩
      have hy2 : 0 ≤ Mx 16 (k * 4 + (d - 1)) ∧ Mx 16 (k * 4 + (d - 1)) ≤ 5 := yXl hLx (g := k) (k := d - 1) (by omega) ⟨by omega, by show d - 1 < Mx 15 k; omega⟩
      have g1 : L.2.2.2 k d = Mx 16 (k * 4 + d) := by
        rw [← hlx]
        exact lX_y (by omega) ⟨by omega, by show d < Mx 15 k; omega⟩
      have g2 : L.2.2.2 k (d - 1) = Mx 16 (k * 4 + (d - 1)) := by
        rw [← hlx]
        exact lX_y (by omega) ⟨by omega, by show d - 1 < Mx 15 k; omega⟩
      refine zr_aload_n (pc := 51) dX4_look_51 rfl rfl ?_
      refine zr_getR (pc := 52) fX4_9 lo_39 rfl rfl dX4_look_52 ?_
      refine zr_aload_n (pc := 55) dX4_look_55 rfl rfl ?_
      refine zr_iload_n (pc := 56) dX4_look_56 rfl rfl ?_
      refine zr_iload_n (pc := 57) dX4_look_57 rfl rfl ?_
      refine zr_inv2I (pc := 58) rfl sX4_34 lo_13 rfl rfl rfl dX4_look_58 ?_
      refine ct_X3_layerOf zp_l13 (by omega) (by omega) ?_
      refine zr_dup2_ir (pc := 61) dX4_look_61 ?_
      refine zr_iaload (pc := 62) lo_40 (by show 0 ≤ Mx 16 (k * 4 + d) ∧ Mx 16 (k * 4 + d) < 6; omega) dX4_look_62 ?_
      refine zr_iconst (pc := 63) dX4_look_63 ?_
      refine zr_aload_n (pc := 64) dX4_look_64 rfl rfl ?_
      refine zr_iload_n (pc := 65) dX4_look_65 rfl rfl ?_
      refine zr_iload_n (pc := 66) dX4_look_66 rfl rfl ?_
      refine zr_iconst (pc := 67) dX4_look_67 ?_
      refine zr_isub (pc := 68) dX4_look_68 ?_
      refine zr_inv2I (pc := 69) rfl sX4_34 lo_13 rfl rfl rfl dX4_look_69 ?_
      refine ct_X3_layerOf zp_l13 (by omega) (by omega) ?_
      refine zr_ishl (pc := 72) dX4_look_72 ?_
      refine zr_ior (pc := 73) dX4_look_73 ?_
      refine zr_iastore (pc := 74) lo_40 (by show 0 ≤ Mx 16 (k * 4 + d) ∧ Mx 16 (k * 4 + d) < 6; omega) dX4_look_74 ?_
      refine zr_iinc (pc := 75) dX4_look_75 rfl (Nat.le_of_ble_eq_true rfl) rfl ?_
      refine zr_goto (pc := 78) (tgt := 41) dX4_look_78 (by decide) ?_
      refine ih _ (by omega) _ _ rfl (by omega) (by omega) (fun k i a => by rw [put_nk _ _ _ _ (by omega)]; exact hfr k i a) (by rw [put_nk _ _ _ _ (by decide)]; exact ha) (fun l a b => ?_)
      rw [show (d + 1 - 1).toNat = ((d - 1) + 1).toNat by omega]
      unfold abF
      rw [fo_s (by omega)]
      show _ = upI (abF L k (d - 1).toNat (abv L k.toNat)) (L.2.2.2 k (d - 1 + 1)) _ l
      rw [show d - 1 + 1 = d by omega, g1, g2]
      show zm_put Mx 40 (Mx 16 (k * 4 + d)) (zb_or (Mx 40 (Mx 16 (k * 4 + d))) (zb_shl 1 (Mx 16 (k * 4 + (d - 1))))) 40 l = _
      by_cases hlq : l = Mx 16 (k * 4 + d)
      · rw [hlq, put_at, upI_s, hb _ hy1.1 (by omega)]
        rfl
      · rw [put_ni _ _ hlq, upI_n hlq]
        exact hb l a b

set_option maxRecDepth 100000 in
set_option maxHeartbeats 4000000 in
theorem lp_X4_look2 {g : zt_G} {M : zm_M} {q : zm_M → Prop} {L : Ln} (hl : lvX M 13 = L) (hL : LW L) (h : ∀ M2, (∀ (k : Nat) (i : Int), (k < 39 ∨ 41 < k) → M2 k i = M k i) → M2 39 2 = bitL L → (∀ l, 0 ≤ l → l < 6 → M2 40 l = abv L L.1.toNat l) → (∀ s, 0 ≤ s → s < 64 → M2 41 s = wyF (bitL L) (abv L L.1.toNat) 64 s) → q M2) : ∀ (nn : Nat) (k : Int) (x3 : Option zv_A) (Mx : zm_M), (L.1 - k).toNat = nn → 0 ≤ k → k ≤ L.1 → (∀ (k : Nat) (i : Int), (k < 39 ∨ 41 < k) → Mx k i = M k i) → Mx 39 2 = bitL L → (∀ l, 0 ≤ l → l < 6 → Mx 40 l = abv L k.toNat l) → zc_Z g mX4_look 31 [some (zv_r 39), some (zv_r 13), some (zv_i k), x3] [] Mx (zq_V q) := by
  intro nn
  induction nn using Nat.strongRecOn with
  | ind nn ih =>
    intro k x3 Mx hnn h0 h1 hfr ha hb
    have hlx : lvX Mx 13 = L := by rw [lvX_fr (fun k i a b => hfr k i (by omega)), hl]
    have hLx : LW (lvX Mx 13) := by rw [hlx]; exact hL
    have hk0 := yXk hLx
    have ek : Mx 13 3 = L.1 := by rw [← hlx]; rfl
    have hb6 := bitL_in hL
    refine zr_iload_n (pc := 31) dX4_look_31 rfl rfl ?_
    refine zr_aload_n (pc := 32) dX4_look_32 rfl rfl ?_
    refine zr_getI (pc := 33) (z := 3) fX4_28 lo_13 rfl rfl rfl dX4_look_33 ?_
    refine zi_icmp_ge (pc := 36) (tgt := 87) dX4_look_36 (by decide) (by omega) (by omega) (fun h36 => ?_) (fun h36 => ?_)
    · refine zr_aload_n (pc := 87) dX4_look_87 rfl rfl ?_
      refine zr_getR (pc := 88) fX4_15 lo_39 rfl rfl dX4_look_88 ?_
      refine zr_iconst (pc := 91) dX4_look_91 ?_
      refine zr_iconst (pc := 92) dX4_look_92 ?_
      refine zr_iastore (pc := 93) lo_41 (by omega) dX4_look_93 ?_
      refine zr_iconst (pc := 94) dX4_look_94 ?_
      refine zr_istore_n (pc := 95) dX4_look_95 rfl (Nat.le_of_ble_eq_true rfl) rfl ?_
      exact lp_X4_look4 (g := g) hl hL h _ _ _ _ rfl (by omega) (by omega) (fun k i a => by rw [put_nk _ _ _ _ (by omega)]; exact hfr k i a) (by rw [put_nk _ _ _ _ (by decide)]; exact ha) (fun l a b => by rw [put_nk _ _ _ _ (by decide), hb l a b, show k = L.1 by omega]) (fun t a b => by rw [show t = 0 by omega, put_at]; rfl)
    · refine zr_iconst (pc := 39) dX4_look_39 ?_
      refine zr_istore_n (pc := 40) dX4_look_40 rfl (Nat.le_of_ble_eq_true rfl) rfl ?_
      exact lp_X4_look3 (g := g) hl hL h (k := k) ⟨h0, by omega⟩ (fun y3 My f1 f2 f3 => ih _ (by omega) _ y3 My rfl (by omega) (by omega) f1 f2 f3) _ _ _ rfl (by omega) (by omega) hfr ha (fun l a b => by rw [hb l a b]; rfl)

set_option maxRecDepth 100000 in
set_option maxHeartbeats 4000000 in
theorem lp_X4_look1 {g : zt_G} {M : zm_M} {q : zm_M → Prop} {L : Ln} (hl : lvX M 13 = L) (hL : LW L) (h : ∀ M2, (∀ (k : Nat) (i : Int), (k < 39 ∨ 41 < k) → M2 k i = M k i) → M2 39 2 = bitL L → (∀ l, 0 ≤ l → l < 6 → M2 40 l = abv L L.1.toNat l) → (∀ s, 0 ≤ s → s < 64 → M2 41 s = wyF (bitL L) (abv L L.1.toNat) 64 s) → q M2) : ∀ (nn : Nat) (k : Int) (x3 : Option zv_A) (Mx : zm_M), (6 - k).toNat = nn → 0 ≤ k → k ≤ 6 → (∀ (k : Nat) (i : Int), (k < 39 ∨ 41 < k) → Mx k i = M k i) → Mx 39 2 = bitL L → (∀ l, 0 ≤ l → l < k → Mx 40 l = 0) → zc_Z g mX4_look 10 [some (zv_r 39), some (zv_r 13), some (zv_i k), x3] [] Mx (zq_V q) := by
  intro nn
  induction nn using Nat.strongRecOn with
  | ind nn ih =>
    intro k x3 Mx hnn h0 h1 hfr ha hb
    have hlx : lvX Mx 13 = L := by rw [lvX_fr (fun k i a b => hfr k i (by omega)), hl]
    have hLx : LW (lvX Mx 13) := by rw [hlx]; exact hL
    have hk0 := yXk hLx
    have ek : Mx 13 3 = L.1 := by rw [← hlx]; rfl
    have hb6 := bitL_in hL
    refine zr_iload_n (pc := 10) dX4_look_10 rfl rfl ?_
    refine zr_bipush (pc := 11) dX4_look_11 (by decide) ?_
    refine zi_icmp_ge (pc := 13) (tgt := 29) dX4_look_13 (by decide) (by omega) (by omega) (fun h13 => ?_) (fun h13 => ?_)
    · refine zr_iconst (pc := 29) dX4_look_29 ?_
      refine zr_istore_n (pc := 30) dX4_look_30 rfl (Nat.le_of_ble_eq_true rfl) rfl ?_
      exact lp_X4_look2 (g := g) hl hL h _ _ _ _ rfl (by omega) (by omega) hfr ha (fun l a b => by rw [hb l a (by omega)]; rfl)
    · refine zr_aload_n (pc := 16) dX4_look_16 rfl rfl ?_
      refine zr_getR (pc := 17) fX4_9 lo_39 rfl rfl dX4_look_17 ?_
      refine zr_iload_n (pc := 20) dX4_look_20 rfl rfl ?_
      refine zr_iconst (pc := 21) dX4_look_21 ?_
      refine zr_iastore (pc := 22) lo_40 (by omega) dX4_look_22 ?_
      refine zr_iinc (pc := 23) dX4_look_23 rfl (Nat.le_of_ble_eq_true rfl) rfl ?_
      refine zr_goto (pc := 26) (tgt := 10) dX4_look_26 (by decide) ?_
      exact ih _ (by omega) _ _ _ rfl (by omega) (by omega) (fun k i a => by rw [put_nk _ _ _ _ (by omega)]; exact hfr k i a) (by rw [put_nk _ _ _ _ (by decide)]; exact ha) (fun l a b => by
        by_cases hlk : l = k
        · rw [hlk, put_at]
        · rw [put_ni _ _ hlk]
          exact hb l a (by omega))

set_option maxRecDepth 100000 in
set_option maxHeartbeats 4000000 in
theorem ct_X4_look {g : zt_G} {M : zm_M} {q : zm_M → Prop} {L : Ln} (hl : lvX M 13 = L) (hL : LW L) (h : ∀ M2, (∀ (k : Nat) (i : Int), (k < 39 ∨ 41 < k) → M2 k i = M k i) → M2 39 2 = bitL L → (∀ l, 0 ≤ l → l < 6 → M2 40 l = abv L L.1.toNat l) → (∀ s, 0 ≤ s → s < 64 → M2 41 s = wyF (bitL L) (abv L L.1.toNat) 64 s) → q M2) : zc_K g yX4_look mX4_look [zv_r 39, zv_r 13] M (zq_V q) := by
  refine zc_of (ls := [some (zv_r 39), some (zv_r 13), none, none]) (by decide) rfl ⟨rfl, rfl⟩ (Nat.le_of_ble_eq_true rfl) rfl ?_
  refine zr_aload_n (pc := 0) dX4_look_0 rfl rfl ?_
  refine zr_aload_n (pc := 1) dX4_look_1 rfl rfl ?_
  refine zr_inv0I (pc := 2) rfl sX4_22 lo_13 rfl rfl rfl dX4_look_2 ?_
  refine ct_X3_bitsOfAll zp_l13 (by rw [hl]; exact hL) ?_
  rw [hl]
  refine zr_putI (pc := 5) (z := 2) fX4_18 lo_39 rfl fwX4_2 rfl rfl dX4_look_5 ?_
  refine zr_iconst (pc := 8) dX4_look_8 ?_
  refine zr_istore_n (pc := 9) dX4_look_9 rfl (Nat.le_of_ble_eq_true rfl) rfl ?_
  exact lp_X4_look1 (g := g) hl hL h _ _ _ _ rfl (by omega) (by omega) (fun k i a => put_nk _ _ _ _ (by omega)) (put_at _ _ _ _) (fun l a b => by omega)

set_option maxRecDepth 100000 in
set_option maxHeartbeats 4000000 in
theorem ct_X10_beneath {g : zt_G} {M : zm_M} {σ : Sg} {q : Int → zm_M → Prop} (hR : RX σ M) (hW : SW σ) {v : Int} (hv : zi v) (h : ∀ M2, frX M M2 → RX σ M2 → q (aBen v (sL σ)) M2) : zc_K g yX10_beneath mX10_beneath [zv_r 0, zv_i v] M (zq_I q) := by
  refine zc_of (ls := [some (zv_r 0), some (zv_i v)]) (by decide) rfl ⟨rfl, rfl⟩ (Nat.le_of_ble_eq_true rfl) rfl ?_
  obtain ⟨hT, hl, hcv, hA, hK, hS, hD⟩ := id hR
  obtain ⟨wT, wTx, wL, ⟨wC, wZ⟩, wA, wK, wS⟩ := id hW
  have hLw : LW (lvX M 13) := by rw [hl]; exact wL
  have hCw : CW (cvX M 17) := by rw [hcv]; exact wC
  have hw0 := wXt hCw
  have hL0 := yXk hLw
  have hk1 : M 13 3 = (sL σ).1 := by rw [← hl]; rfl
  have ht1 : M 17 5 = ct (sC σ) := by rw [← hcv]; rfl
  have hT1 := hT.1
  have hb6 := bitL_in wL
  have hwi := wyF_in (all := bitL (sL σ)) (ab := abv (sL σ) (sL σ).1.toNat) 64 (by decide) (bitL (sL σ)) hb6.1 hb6.2
  have hw6 := w6 hb6
  refine zr_iload_n (pc := 0) dX10_beneath_0 rfl rfl ?_
  refine zr_stat1I (pc := 1) rfl sX10_211 rfl rfl dX10_beneath_1 ?_
  refine ct_X10_isFirstOrSecond hv ?_
  refine zr_ifb_ne (pc := 4) (tgt := 10) dX10_beneath_4 (by decide) (fun h4 => ?_) (fun h4 => ?_)
  · refine zr_aload_n (pc := 10) dX10_beneath_10 rfl rfl ?_
    refine zr_getR (pc := 11) fX10_64 lo_0 rfl rfl dX10_beneath_11 ?_
    refine zr_aload_n (pc := 14) dX10_beneath_14 rfl rfl ?_
    refine zr_getR (pc := 15) fX10_26 lo_0 rfl rfl dX10_beneath_15 ?_
    refine zr_inv1V (pc := 18) rfl sX10_224 lo_39 rfl rfl rfl dX10_beneath_18 ?_
    refine ct_X4_look hl wL (fun M2 hf2 ha2 hb2 hc2 => ?_)
    have hRX : RX σ M2 := RX_frs hR (fun k i a b => hf2 k i (by unfold zsc at b; omega))
    have hfX : frX M M2 := fun k i a => hf2 k i (by omega)
    have hmn : M2 41 (M2 39 2) = wyF (bitL (sL σ)) (abv (sL σ) (sL σ).1.toNat) 64 (bitL (sL σ)) := by rw [ha2]; exact hc2 _ hb6.1 hb6.2
    refine zr_iload_n (pc := 21) dX10_beneath_21 rfl rfl ?_
    refine zi_if_ne (pc := 22) (tgt := 33) dX10_beneath_22 (by decide) (by omega) (fun h22 => ?_) (fun h22 => ?_)
    · refine zr_aload_n (pc := 33) dX10_beneath_33 rfl rfl ?_
      refine zr_getR (pc := 34) fX10_64 lo_0 rfl rfl dX10_beneath_34 ?_
      refine zr_inv0I (pc := 37) rfl sX10_227 lo_39 rfl rfl rfl dX10_beneath_37 ?_
      refine ct_X4_howMany (by rw [ha2]; exact hb6) ?_
      rw [hmn]
      refine zi_if_ne (pc := 40) (tgt := 48) dX10_beneath_40 (by decide) (by omega) (fun h40 => ?_) (fun h40 => ?_)
      · refine zr_aload_n (pc := 48) dX10_beneath_48 rfl rfl ?_
        refine zr_getR (pc := 49) fX10_64 lo_0 rfl rfl dX10_beneath_49 ?_
        refine zr_inv0I (pc := 52) rfl sX10_230 lo_39 rfl rfl rfl dX10_beneath_52 ?_
        refine ct_X4_least hb2 (abv_in wL _) ha2 hb6 ?_
        exact zr_ireturn (pc := 55) dX10_beneath_55 rfl (zq_eq (h M2 hfX hRX) (by unfold aBen; rw [if_neg (fun y => y h4), if_neg h22, if_neg h40]))
      · refine zr_bipush (pc := 43) dX10_beneath_43 (by decide) ?_
        refine zr_goto (pc := 45) (tgt := 55) dX10_beneath_45 (by decide) ?_
        exact zr_ireturn (pc := 55) dX10_beneath_55 rfl (zq_eq (h M2 hfX hRX) (by unfold aBen; rw [if_neg (fun y => y h4), if_neg h22, if_pos h40]))
    · refine zr_aload_n (pc := 25) dX10_beneath_25 rfl rfl ?_
      refine zr_getR (pc := 26) fX10_64 lo_0 rfl rfl dX10_beneath_26 ?_
      refine zr_inv0I (pc := 29) rfl sX10_227 lo_39 rfl rfl rfl dX10_beneath_29 ?_
      refine ct_X4_howMany (by rw [ha2]; exact hb6) ?_
      rw [hmn]
      exact zr_ireturn (pc := 32) dX10_beneath_32 rfl (zq_eq (h M2 hfX hRX) (by unfold aBen; rw [if_neg (fun y => y h4), if_pos h22]))
  · refine zr_bipush (pc := 7) dX10_beneath_7 (by decide) ?_
    exact zr_ireturn (pc := 9) dX10_beneath_9 rfl (zq_eq (h M (fun _ _ _ => rfl) hR) (by unfold aBen; rw [if_pos h4]))

