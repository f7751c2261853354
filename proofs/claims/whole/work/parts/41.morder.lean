/-! the orders that fit -/
theorem nth_in : ∀ r : Nat, r < 64 → ∀ i : Nat, i < 6 → (i : Int) < on6 (r : Int) → (0 ≤ nthF (r : Int) 6 0 (i : Int) ∧ nthF (r : Int) 6 0 (i : Int) < 6) ∧ bt (r : Int) (nthF (r : Int) 6 0 (i : Int)) = true := by decide +kernel
theorem nth_i {r : Int} (hr : 0 ≤ r ∧ r < 64) {i : Nat} (hi : (i : Int) < on6 r) : (0 ≤ nthF r 6 0 (i : Int) ∧ nthF r 6 0 (i : Int) < 6) ∧ bt r (nthF r 6 0 (i : Int)) = true := by
  have h1 := on6_i hr
  obtain ⟨r, rfl⟩ := Int.eq_ofNat_of_zero_le hr.1
  exact nth_in r (by omega) i (by omega) hi
def sqO (r : Int) (k : Nat) (Pl : List Int) : Prop := Pl.length = k ∧ (∀ (j : Nat) (l : Int), Pl[j]? = some l → (0 ≤ l ∧ l < 6) ∧ bt r l = true) ∧ (∀ (i j : Nat) (l : Int), Pl[i]? = some l → Pl[j]? = some l → i = j) ∧ ∀ l, 0 ≤ l → l < 6 → bt r l = true → ∃ j : Nat, Pl[j]? = some l
theorem sq_ok : ∀ (k : Nat) (r : Int) (v : Nat), 0 ≤ r ∧ r < 64 → on6 r = (k : Int) → v < fcN k → sqO r k (sqF k r v)
  | 0, r, v, hr, hk, hv => by
    refine ⟨rfl, fun j l h => by simp [sqF] at h, fun i j l h => by simp [sqF] at h, fun l l0 l1 h => ?_⟩
    have h1 : r = 0 := by
      obtain ⟨r, rfl⟩ := Int.eq_ofNat_of_zero_le hr.1
      have := on0_ok r (by omega) hk
      omega
    rw [h1] at h
    exact absurd h (bt0 l)
  | k + 1, r, v, hr, hk, hv => by
    have hB := fcN_pos k
    have hq : v / fcN k < k + 1 := Nat.div_lt_of_lt_mul (by rw [Nat.mul_comm]; exact hv)
    have hn := nth_i hr (i := v / fcN k) (by omega)
    obtain ⟨x, ex⟩ : ∃ x, x = nthF r 6 0 ((v / fcN k : Nat) : Int) := ⟨_, rfl⟩
    rw [sq_s, ← ex]
    rw [← ex] at hn
    have hrm := rm_i hr hn.1
    have hr2 : 0 ≤ rmB r x ∧ rmB r x < 64 := ⟨hrm.1.1, by omega⟩
    have hon := rm_on hr hn.1 hn.2
    have ih := sq_ok k (rmB r x) (v % fcN k) hr2 (by omega) (Nat.mod_lt _ hB)
    obtain ⟨i1, i2, i3, i4⟩ := ih
    have hmem : ∀ l, 0 ≤ l → l < 6 → (bt (rmB r x) l = true ↔ bt r l = true ∧ ¬ l = x) := fun l l0 l1 => by
      rw [bt_rmB hr hn.1 ⟨l0, l1⟩, Bool.and_eq_true]
      by_cases e : l = x
      · rw [decide_eq_true e]
        simp [e]
      · rw [decide_eq_false e]
        simp [e]
    refine ⟨by rw [List.length_cons, i1], fun j l h => ?_, fun i j l h h2 => ?_, fun l l0 l1 h => ?_⟩
    · cases j with
      | zero =>
        cases h
        exact hn
      | succ j =>
        have h3 := i2 j l h
        exact ⟨h3.1, ((hmem l h3.1.1 h3.1.2).mp h3.2).1⟩
    · cases i with
      | zero =>
        cases j with
        | zero => rfl
        | succ j =>
          cases h
          have h3 := i2 j x h2
          exact absurd rfl ((hmem x h3.1.1 h3.1.2).mp h3.2).2
      | succ i =>
        cases j with
        | zero =>
          cases h2
          have h3 := i2 i x h
          exact absurd rfl ((hmem x h3.1.1 h3.1.2).mp h3.2).2
        | succ j =>
          have := i3 i j l h h2
          omega
    · by_cases e : l = x
      · exact ⟨0, by rw [e]; rfl⟩
      · obtain ⟨j, hj⟩ := i4 l l0 l1 ((hmem l l0 l1).mpr ⟨h, e⟩)
        exact ⟨j + 1, hj⟩
theorem bt_fo {f : Int → Int} {l : Int} (hl : 0 ≤ l) : ∀ n : Nat, (∀ k, 0 ≤ k → k < (n : Int) → 0 ≤ f k ∧ f k ≤ 5) → (0 ≤ fo (fun k b => zb_or b (zb_shl 1 (f k))) 0 n ∧ fo (fun k b => zb_or b (zb_shl 1 (f k))) 0 n < 64) ∧ (bt (fo (fun k b => zb_or b (zb_shl 1 (f k))) 0 n) l = true ↔ ∃ k, 0 ≤ k ∧ k < (n : Int) ∧ f k = l)
  | 0, _ => ⟨⟨Int.le_refl 0, show (0 : Int) < 64 by decide⟩, fun h => absurd h (bt0 l), fun ⟨k, a, b, _⟩ => by omega⟩
  | n + 1, h => by
    have ih := bt_fo (f := f) hl n (fun k a b => h k a (by omega))
    have h1 := h (n : Int) (by omega) (by omega)
    have h2 := s1_rng (r := f (n : Int)) 6 (by decide) (by omega)
    show (0 ≤ zb_or (fo (fun k b => zb_or b (zb_shl 1 (f k))) 0 n) (zb_shl 1 (f (n : Int))) ∧ zb_or (fo (fun k b => zb_or b (zb_shl 1 (f k))) 0 n) (zb_shl 1 (f (n : Int))) < 64) ∧ (bt (zb_or (fo (fun k b => zb_or b (zb_shl 1 (f k))) 0 n) (zb_shl 1 (f (n : Int)))) l = true ↔ _)
    refine ⟨or_rng 6 (by decide) ih.1 h2, ?_⟩
    rw [bt_or 6 (by decide) ih.1 h2, bt_s1 (by omega) hl, Bool.or_eq_true, ih.2, decide_eq_true_eq]
    constructor
    · rintro (⟨k, a, b, c⟩ | e)
      · exact ⟨k, a, by omega, c⟩
      · exact ⟨(n : Int), by omega, by omega, e.symm⟩
    · rintro ⟨k, a, b, c⟩
      by_cases e : k = (n : Int)
      · rw [e] at c
        exact Or.inr c.symm
      · exact Or.inl ⟨k, a, by omega, c⟩
theorem bt_bitL {L : Ln} (hL : LW L) {g j : Int} (hg : 0 ≤ g ∧ g < L.1) (hj : 0 ≤ j ∧ j < L.2.2.1 g) : bt (bitL L) (L.2.2.2 g j) = true := by
  have hy := hL.2.2 g j
  have h1 : bt (bitG L g) (L.2.2.2 g j) = true := by
    unfold bitG
    exact (bt_fo (f := L.2.2.2 g) hy.1 _ (fun k _ _ => hL.2.2 g k)).2.mpr ⟨j, hj.1, by omega, rfl⟩
  have key : ∀ n : Nat, g < (n : Int) → bt (fo (fun g b => zb_or b (bitG L g)) 0 n) (L.2.2.2 g j) = true := by
    intro n
    induction n with
    | zero => intro h; omega
    | succ n ih =>
      intro h
      have h2 : 0 ≤ fo (fun g b => zb_or b (bitG L g)) 0 n ∧ fo (fun g b => zb_or b (bitG L g)) 0 n < 64 := fo_p (P := fun b : Int => 0 ≤ b ∧ b < 64) ⟨by decide, by decide⟩ (fun i b _ _ hb => oo6 hb (bitG_in hL i))
      show bt (zb_or (fo (fun g b => zb_or b (bitG L g)) 0 n) (bitG L (n : Int))) _ = true
      rw [bt_or 6 (by decide) h2 (bitG_in hL _), Bool.or_eq_true]
      by_cases e : g = (n : Int)
      · rw [← e]
        exact Or.inr h1
      · exact Or.inl (ih (by omega))
  exact key L.1.toNat (by omega)
theorem abF_bt {L : Ln} (hL : LW L) {g a b : Int} (ha : 0 ≤ a) {f : Int → Int} (hf : ∀ l, 0 ≤ f l ∧ f l < 64) : ∀ n : Nat, (bt (abF L g n f b) a = true ↔ (bt (f b) a = true ∨ ∃ j, 0 ≤ j ∧ j < (n : Int) ∧ L.2.2.2 g j = a ∧ L.2.2.2 g (j + 1) = b))
  | 0 => ⟨fun h => Or.inl h, fun h => h.elim id (fun ⟨j, x, y, _⟩ => by omega)⟩
  | n + 1 => by
    have ih := abF_bt hL (g := g) (a := a) (b := b) ha hf n
    have hi := abF_in hL (g := g) hf n
    have hy := hL.2.2 g (n : Int)
    show bt (upI (abF L g n f) (L.2.2.2 g ((n : Int) + 1)) (zb_or (abF L g n f (L.2.2.2 g ((n : Int) + 1))) (zb_shl 1 (L.2.2.2 g (n : Int)))) b) a = true ↔ _
    by_cases e : b = L.2.2.2 g ((n : Int) + 1)
    · rw [← e, upI_s, bt_or 6 (by decide) (hi b) (s1_rng 6 (by decide) (by omega)), bt_s1 (by omega) ha, Bool.or_eq_true, ih, decide_eq_true_eq]
      constructor
      · rintro ((h | ⟨j, x, y, z⟩) | h)
        · exact Or.inl h
        · exact Or.inr ⟨j, x, by omega, z⟩
        · exact Or.inr ⟨(n : Int), by omega, by omega, h.symm, e.symm⟩
      · rintro (h | ⟨j, x, y, z1, z2⟩)
        · exact Or.inl (Or.inl h)
        · by_cases ej : j = (n : Int)
          · rw [ej] at z1
            exact Or.inr z1.symm
          · exact Or.inl (Or.inr ⟨j, x, by omega, z1, z2⟩)
    · rw [upI_n e, ih]
      constructor
      · rintro (h | ⟨j, x, y, z⟩)
        · exact Or.inl h
        · exact Or.inr ⟨j, x, by omega, z⟩
      · rintro (h | ⟨j, x, y, z1, z2⟩)
        · exact Or.inl h
        · by_cases ej : j = (n : Int)
          · rw [ej] at z2
            exact absurd z2.symm e
          · exact Or.inr ⟨j, x, by omega, z1, z2⟩
theorem abv_bt {L : Ln} (hL : LW L) {a b : Int} (ha : 0 ≤ a) : ∀ n : Nat, (bt (abv L n b) a = true ↔ ∃ g j, (0 ≤ g ∧ g < (n : Int)) ∧ (0 ≤ j ∧ j < L.2.2.1 g - 1) ∧ L.2.2.2 g j = a ∧ L.2.2.2 g (j + 1) = b)
  | 0 => ⟨fun h => absurd h (bt0 a), fun ⟨g, j, x, _⟩ => by omega⟩
  | n + 1 => by
    have ih := abv_bt hL (b := b) ha n
    show bt (abF L (n : Int) (L.2.2.1 (n : Int) - 1).toNat (abv L n) b) a = true ↔ _
    rw [abF_bt hL ha (abv_in hL n), ih]
    constructor
    · rintro (⟨g, j, x, y⟩ | ⟨j, x, y, z⟩)
      · exact ⟨g, j, by omega, y⟩
      · exact ⟨(n : Int), j, by omega, by omega, z⟩
    · rintro ⟨g, j, x, y, z⟩
      by_cases e : g = (n : Int)
      · rw [e] at y z
        exact Or.inr ⟨j, y.1, by omega, z⟩
      · exact Or.inl ⟨g, j, by omega, y, z⟩
def prG (pos : Int → Int) (L : Ln) (g : Int) (b : Bool) (n : Nat) : Bool := fo (fun j b => b && decide (pos (L.2.2.2 g j) < pos (L.2.2.2 g (j + 1)))) b n
def prB (pos : Int → Int) (L : Ln) (n : Nat) : Bool := fo (fun g b => prG pos L g b (L.2.2.1 g - 1).toNat) true n
theorem prG_iff {pos : Int → Int} {L : Ln} {g : Int} {b : Bool} : ∀ n : Nat, (prG pos L g b n = true ↔ b = true ∧ ∀ j, 0 ≤ j → j < (n : Int) → pos (L.2.2.2 g j) < pos (L.2.2.2 g (j + 1)))
  | 0 => ⟨fun h => ⟨h, fun j a c => by omega⟩, fun h => h.1⟩
  | n + 1 => by
    have ih := prG_iff (pos := pos) (L := L) (g := g) (b := b) n
    show (prG pos L g b n && decide (pos (L.2.2.2 g (n : Int)) < pos (L.2.2.2 g ((n : Int) + 1)))) = true ↔ _
    rw [Bool.and_eq_true, ih, decide_eq_true_eq]
    constructor
    · rintro ⟨⟨x, y⟩, z⟩
      refine ⟨x, fun j a c => ?_⟩
      by_cases e : j = (n : Int)
      · rw [e]
        exact z
      · exact y j a (by omega)
    · rintro ⟨x, y⟩
      exact ⟨⟨x, fun j a c => y j a (by omega)⟩, y (n : Int) (by omega) (by omega)⟩
theorem prB_iff {pos : Int → Int} {L : Ln} : ∀ n : Nat, (prB pos L n = true ↔ ∀ g j, (0 ≤ g ∧ g < (n : Int)) → (0 ≤ j ∧ j < L.2.2.1 g - 1) → pos (L.2.2.2 g j) < pos (L.2.2.2 g (j + 1)))
  | 0 => ⟨fun _ g j h => by omega, fun _ => rfl⟩
  | n + 1 => by
    have ih := prB_iff (pos := pos) (L := L) n
    show prG pos L (n : Int) (prB pos L n) (L.2.2.1 (n : Int) - 1).toNat = true ↔ _
    rw [prG_iff, ih]
    constructor
    · rintro ⟨x, y⟩ g j hg hj
      by_cases e : g = (n : Int)
      · rw [e] at hj ⊢
        exact y j hj.1 (by omega)
      · exact x g j (by omega) hj
    · intro h
      exact ⟨fun g j hg hj => h g j (by omega) hj, fun j a c => h (n : Int) j (by omega) (by omega)⟩
theorem lsV_iff {ab : Int → Int} (ha : ∀ l, 0 ≤ ab l ∧ ab l < 64) : ∀ (Pl : List Int) (d : Int), 0 ≤ d ∧ d < 64 → (∀ (j : Nat) (l : Int), Pl[j]? = some l → 0 ≤ l ∧ l < 6) → (lsV ab d Pl = true ↔ ∀ (i : Nat) (l : Int), Pl[i]? = some l → ∀ a, 0 ≤ a → a < 6 → bt (ab l) a = true → (bt d a = true ∨ ∃ i2 : Nat, i2 < i ∧ Pl[i2]? = some a))
  | [], d, _, _ => ⟨fun _ i l h => by simp at h, fun _ => rfl⟩
  | x :: Pl, d, hd, hm => by
    have hx := hm 0 x rfl
    have ih := lsV_iff ha Pl (orB d x) (orB_in hd hx) (fun j l h => hm (j + 1) l h)
    show (decide (cFo ab x d) && lsV ab (orB d x) Pl) = true ↔ _
    rw [Bool.and_eq_true, decide_eq_true_eq, ih, cFo_iff ha hd]
    constructor
    · rintro ⟨h1, h2⟩ i l hi a a0 a1 h
      cases i with
      | zero =>
        cases hi
        exact Or.inl (h1 a a0 a1 h)
      | succ i =>
        rcases h2 i l hi a a0 a1 h with h3 | ⟨i2, h3, h4⟩
        · rw [bt_orB hd hx a0, Bool.or_eq_true, decide_eq_true_eq] at h3
          rcases h3 with h3 | h3
          · exact Or.inl h3
          · exact Or.inr ⟨0, by omega, by rw [h3]; rfl⟩
        · exact Or.inr ⟨i2 + 1, by omega, h4⟩
    · intro h
      refine ⟨fun a a0 a1 h1 => ?_, fun i l hi a a0 a1 h1 => ?_⟩
      · rcases h 0 x rfl a a0 a1 h1 with h2 | ⟨i2, h2, _⟩
        · exact h2
        · omega
      · rw [bt_orB hd hx a0, Bool.or_eq_true, decide_eq_true_eq]
        rcases h (i + 1) l hi a a0 a1 h1 with h2 | ⟨i2, h2, h3⟩
        · exact Or.inl (Or.inl h2)
        · cases i2 with
          | zero =>
            cases h3
            exact Or.inl (Or.inr rfl)
          | succ i2 => exact Or.inr ⟨i2, by omega, h3⟩
theorem V_eq {L : Ln} (hL : LW L) {k : Nat} {Pl : List Int} (hP : sqO (bitL L) k Pl) {pos : Int → Int} (hpos : ∀ (j : Nat) (l : Int), Pl[j]? = some l → pos l = (j : Int)) : prB pos L L.1.toNat = lsV (abv L L.1.toNat) 0 Pl := by
  rw [Bool.eq_iff_iff, prB_iff, lsV_iff (abv_in hL _) Pl 0 (by decide) (fun j l h => (hP.2.1 j l h).1)]
  have h0 := hL.1
  constructor
  · intro h i l hi a a0 a1 h1
    right
    obtain ⟨g, j, hg, hj, e1, e2⟩ := (abv_bt hL a0 _).mp h1
    have h2 := h g j hg hj
    rw [e1, e2, hpos i l hi] at h2
    have h3 := bt_bitL hL (g := g) (j := j) (by omega) (by omega)
    rw [e1] at h3
    obtain ⟨i2, hi2⟩ := hP.2.2.2 a a0 a1 h3
    rw [hpos i2 a hi2] at h2
    exact ⟨i2, by omega, hi2⟩
  · intro h g j hg hj
    have y1 := hL.2.2 g j
    have y2 := hL.2.2 g (j + 1)
    have h3 := bt_bitL hL (g := g) (j := j + 1) (by omega) (by omega)
    obtain ⟨i, hi⟩ := hP.2.2.2 _ y2.1 (by omega) h3
    rcases h i _ hi (L.2.2.2 g j) y1.1 (by omega) ((abv_bt hL y1.1 _).mpr ⟨g, j, hg, hj, rfl, rfl⟩) with h4 | ⟨i2, h4, h5⟩
    · exact absurd h4 (bt0 _)
    · rw [hpos i _ hi, hpos i2 _ h5]
      omega
/-! figures -/
theorem fig_ap : ∀ (Pl : List Int) (u l : Int), figL u (Pl ++ [l]) = 10 * figL u Pl + l + 1
  | [], u, l => rfl
  | x :: Pl, u, l => fig_ap Pl (10 * u + x + 1) l
theorem fig_in : ∀ (n : Nat) (Pl : List Int), Pl.length = n → (∀ (j : Nat) (l : Int), Pl[j]? = some l → 0 ≤ l ∧ l < 6) → ∀ u : Int, 0 ≤ u → 0 ≤ figL u Pl ∧ figL u Pl < (u + 1) * ((10 ^ n : Nat) : Int)
  | 0, [], _, _, u, hu => ⟨hu, by show u < (u + 1) * 1; omega⟩
  | n + 1, x :: Pl, hl, hm, u, hu => by
    have hx := hm 0 x rfl
    have ih := fig_in n Pl (by rw [List.length_cons] at hl; omega) (fun j l h => hm (j + 1) l h) (10 * u + x + 1) (by omega)
    refine ⟨ih.1, ?_⟩
    show figL (10 * u + x + 1) Pl < _
    have hp : (0 : Int) ≤ ((10 ^ n : Nat) : Int) := Int.natCast_nonneg _
    have e : ((10 ^ (n + 1) : Nat) : Int) = 10 * ((10 ^ n : Nat) : Int) := by
      rw [Nat.pow_succ, Int.natCast_mul]
      omega
    rw [e]
    have h1 : (10 * u + x + 1 + 1) * ((10 ^ n : Nat) : Int) ≤ (10 * (u + 1)) * ((10 ^ n : Nat) : Int) := Int.mul_le_mul_of_nonneg_right (by omega) hp
    have h2 : (10 * (u + 1)) * ((10 ^ n : Nat) : Int) = (u + 1) * (10 * ((10 ^ n : Nat) : Int)) := by
      rw [Int.mul_comm 10 (u + 1), Int.mul_assoc]
    omega
theorem t106 {n : Nat} (h : n ≤ 6) : 1 ≤ 10 ^ n ∧ 10 ^ n ≤ 1000000 := by
  rcases (by omega : n = 0 ∨ n = 1 ∨ n = 2 ∨ n = 3 ∨ n = 4 ∨ n = 5 ∨ n = 6) with e | e | e | e | e | e | e <;> rw [e] <;> decide
theorem fc720 {n : Nat} (h : n ≤ 6) : 1 ≤ fcN n ∧ fcN n ≤ 720 := by
  rcases (by omega : n = 0 ∨ n = 1 ∨ n = 2 ∨ n = 3 ∨ n = 4 ∨ n = 5 ∨ n = 6) with e | e | e | e | e | e | e <;> rw [e] <;> decide
def cF (r : Int) : Nat → Int → Int
  | 0, _ => 0
  | n + 1, l => (if bt r l = true then 1 else 0) + cF r n (l + 1)
theorem cF_on : ∀ r : Nat, r < 64 → cF (r : Int) 6 0 = on6 (r : Int) := by decide +kernel
theorem cF_s (r : Int) (n : Nat) (l : Int) : cF r (n + 1) l = (if bt r l = true then 1 else 0) + cF r n (l + 1) := rfl
theorem nt_s (r : Int) (n : Nat) (l i : Int) : nthF r (n + 1) l i = if bt r l = true then (if i ≤ 0 then l else nthF r n (l + 1) (i - 1)) else nthF r n (l + 1) i := rfl
set_option maxRecDepth 100000 in
set_option maxHeartbeats 4000000 in
theorem lp_X11_orderS {g : zt_G} {M : zm_M} {q : Int → zm_M → Prop} {a1 a2 a3 a4 r sz rs u k : Int} (hr : 0 ≤ r ∧ r < 64) {x : Int} (ho : ∀ i : Int, zc_Z g mX11_orderOf 86 [some (zv_r 46), some (zv_i a1), some (zv_i a2), some (zv_i a3), some (zv_i a4), some (zv_i r), some (zv_i sz), some (zv_i rs), some (zv_i u), some (zv_i k), some (zv_i i), some (zv_i x)] [] M (zq_I q)) : ∀ (nn : Nat) (i l : Int), (6 - l).toNat = nn → 0 ≤ l → l ≤ 6 → 0 ≤ i → i ≤ 720 → i < cF r (6 - l).toNat l → nthF r (6 - l).toNat l i = x → zc_Z g mX11_orderOf 45 [some (zv_r 46), some (zv_i a1), some (zv_i a2), some (zv_i a3), some (zv_i a4), some (zv_i r), some (zv_i sz), some (zv_i rs), some (zv_i u), some (zv_i k), some (zv_i i), some (zv_i l)] [] M (zq_I q) := by
  intro nn
  induction nn using Nat.strongRecOn with
  | ind nn ih =>
    intro i l hnn h0 h1 hi hi2 hc hx
    have h6 : l < 6 := by
      by_cases e : l = 6
      · rw [e] at hc
        have : cF r (6 - 6 : Int).toNat 6 = 0 := rfl
        omega
      · omega
    rw [show (6 - l).toNat = (6 - (l + 1)).toNat + 1 by omega, cF_s] at hc
    rw [show (6 - l).toNat = (6 - (l + 1)).toNat + 1 by omega, nt_s] at hx
    refine zr_iload (pc := 45) dX11_orderOf_45 rfl ?_
    refine zr_iload (pc := 47) dX11_orderOf_47 rfl ?_
    refine zr_stat2I (pc := 49) rfl sX11_75 rfl rfl dX11_orderOf_49 ?_
    refine ct_X11_has (by omega) (by omega) ?_
    refine zr_ifb_eq (pc := 52) (tgt := 60) dX11_orderOf_52 (by decide) (fun h52 => ?_) (fun h52 => ?_)
    · refine zr_iload (pc := 60) dX11_orderOf_60 rfl ?_
      refine zr_iload (pc := 62) dX11_orderOf_62 rfl ?_
      refine zr_iload (pc := 64) dX11_orderOf_64 rfl ?_
      refine zr_stat2I (pc := 66) rfl sX11_75 rfl rfl dX11_orderOf_66 ?_
      refine ct_X11_has (by omega) (by omega) ?_
      refine zr_ifb_eq (pc := 69) (tgt := 76) dX11_orderOf_69 (by decide) (fun h69 => ?_) (fun h69 => ?_)
      · refine zr_iconst (pc := 76) dX11_orderOf_76 ?_
        refine zr_isub (pc := 77) dX11_orderOf_77 ?_
        refine zr_istore (pc := 78) dX11_orderOf_78 (Nat.le_of_ble_eq_true rfl) rfl ?_
        refine zr_iinc (pc := 80) dX11_orderOf_80 rfl (Nat.le_of_ble_eq_true rfl) rfl ?_
        refine zr_goto (pc := 83) (tgt := 45) dX11_orderOf_83 (by decide) ?_
        rw [if_neg h52] at hx hc
        rw [Int.sub_zero]
        exact ih _ (by omega) _ _ rfl (by omega) (by omega) hi hi2 (by omega) hx
      · refine zr_iconst (pc := 72) dX11_orderOf_72 ?_
        refine zr_goto (pc := 73) (tgt := 77) dX11_orderOf_73 (by decide) ?_
        refine zr_isub (pc := 77) dX11_orderOf_77 ?_
        refine zr_istore (pc := 78) dX11_orderOf_78 (Nat.le_of_ble_eq_true rfl) rfl ?_
        refine zr_iinc (pc := 80) dX11_orderOf_80 rfl (Nat.le_of_ble_eq_true rfl) rfl ?_
        refine zr_goto (pc := 83) (tgt := 45) dX11_orderOf_83 (by decide) ?_
        exact absurd h69 h52
    · refine zr_iload (pc := 55) dX11_orderOf_55 rfl ?_
      refine zi_if_le (pc := 57) (tgt := 86) dX11_orderOf_57 (by decide) (by omega) (fun h57 => ?_) (fun h57 => ?_)
      · rw [if_pos h52, if_pos h57] at hx
        rw [hx]
        exact ho i
      · refine zr_iload (pc := 60) dX11_orderOf_60 rfl ?_
        refine zr_iload (pc := 62) dX11_orderOf_62 rfl ?_
        refine zr_iload (pc := 64) dX11_orderOf_64 rfl ?_
        refine zr_stat2I (pc := 66) rfl sX11_75 rfl rfl dX11_orderOf_66 ?_
        refine ct_X11_has (by omega) (by omega) ?_
        refine zr_ifb_eq (pc := 69) (tgt := 76) dX11_orderOf_69 (by decide) (fun h69 => ?_) (fun h69 => ?_)
        · refine zr_iconst (pc := 76) dX11_orderOf_76 ?_
          refine zr_isub (pc := 77) dX11_orderOf_77 ?_
          refine zr_istore (pc := 78) dX11_orderOf_78 (Nat.le_of_ble_eq_true rfl) rfl ?_
          refine zr_iinc (pc := 80) dX11_orderOf_80 rfl (Nat.le_of_ble_eq_true rfl) rfl ?_
          refine zr_goto (pc := 83) (tgt := 45) dX11_orderOf_83 (by decide) ?_
          exact absurd h52 h69
        · refine zr_iconst (pc := 72) dX11_orderOf_72 ?_
          refine zr_goto (pc := 73) (tgt := 77) dX11_orderOf_73 (by decide) ?_
          refine zr_isub (pc := 77) dX11_orderOf_77 ?_
          refine zr_istore (pc := 78) dX11_orderOf_78 (Nat.le_of_ble_eq_true rfl) rfl ?_
          refine zr_iinc (pc := 80) dX11_orderOf_80 rfl (Nat.le_of_ble_eq_true rfl) rfl ?_
          refine zr_goto (pc := 83) (tgt := 45) dX11_orderOf_83 (by decide) ?_
          rw [if_pos h52] at hx hc
          rw [if_neg (by omega)] at hx
          exact ih _ (by omega) _ _ rfl (by omega) (by omega) (by omega) (by omega) (by omega) hx

set_option maxRecDepth 100000 in
set_option maxHeartbeats 4000000 in
theorem lp_X11_orderOf {g : zt_G} {M : zm_M} {q : Int → zm_M → Prop} {a1 a2 a3 a4 R0 : Int} (h : q R0 M) : ∀ (nn : Nat) (k v : Nat) (r u : Int) (x10 x11 : Option zv_A), k = nn → k ≤ 6 → (0 ≤ r ∧ r < 64) → on6 r = (k : Int) → v < fcN k → figL u (sqF k r v) = R0 → zc_Z g mX11_orderOf 16 [some (zv_r 46), some (zv_i a1), some (zv_i a2), some (zv_i a3), some (zv_i a4), some (zv_i r), some (zv_i ((fcN k : Nat) : Int)), some (zv_i ((v : Nat) : Int)), some (zv_i u), some (zv_i ((k : Nat) : Int)), x10, x11] [] M (zq_I q) := by
  intro nn
  induction nn using Nat.strongRecOn with
  | ind nn ih =>
    intro k v r u x10 x11 hnn hk6 hr hon hv hR
    refine zr_iload (pc := 16) dX11_orderOf_16 rfl ?_
    refine zi_if_le (pc := 18) (tgt := 115) dX11_orderOf_18 (by decide) (by omega) (fun h18 => ?_) (fun h18 => ?_)
    · refine zr_iload (pc := 115) dX11_orderOf_115 rfl ?_
      exact zr_ireturn (pc := 117) dX11_orderOf_117 rfl (zq_eq h (by
          rw [← hR, show k = 0 by omega]
          rfl))
    · obtain ⟨k, rfl⟩ : ∃ j, k = j + 1 := ⟨k - 1, by omega⟩
      have hfc := fc720 (n := k + 1) hk6
      have hfk := fc720 (n := k) (by omega)
      have esz : ((fcN (k + 1) : Nat) : Int) / ((k + 1 : Nat) : Int) = ((fcN k : Nat) : Int) := by
        rw [← Int.natCast_ediv]
        congr 1
        exact Nat.mul_div_cancel_left (fcN k) (by omega)
      have hq : v / fcN k < k + 1 := Nat.div_lt_of_lt_mul (by rw [Nat.mul_comm]; exact hv)
      have hn := nth_i hr (i := v / fcN k) (by omega)
      rw [sq_s] at hR
      refine zr_iload (pc := 21) dX11_orderOf_21 rfl ?_
      refine zr_iload (pc := 23) dX11_orderOf_23 rfl ?_
      refine zr_idiv (pc := 25) (by omega) (by omega) dX11_orderOf_25 ?_
      rw [esz]
      refine zr_istore (pc := 26) dX11_orderOf_26 (Nat.le_of_ble_eq_true rfl) rfl ?_
      refine zr_iload (pc := 28) dX11_orderOf_28 rfl ?_
      refine zr_iload (pc := 30) dX11_orderOf_30 rfl ?_
      refine zr_idiv (pc := 32) (by omega) (by omega) dX11_orderOf_32 ?_
      rw [← Int.natCast_ediv]
      refine zr_istore (pc := 33) dX11_orderOf_33 (Nat.le_of_ble_eq_true rfl) rfl ?_
      refine zr_iload (pc := 35) dX11_orderOf_35 rfl ?_
      refine zr_iload (pc := 37) dX11_orderOf_37 rfl ?_
      refine zr_irem (pc := 39) (by omega) (by omega) dX11_orderOf_39 ?_
      rw [← Int.natCast_emod]
      refine zr_istore (pc := 40) dX11_orderOf_40 (Nat.le_of_ble_eq_true rfl) rfl ?_
      refine zr_iconst (pc := 42) dX11_orderOf_42 ?_
      refine zr_istore (pc := 43) dX11_orderOf_43 (Nat.le_of_ble_eq_true rfl) rfl ?_
      have hcF : cF r 6 0 = on6 r := by
        obtain ⟨r, rfl⟩ := Int.eq_ofNat_of_zero_le hr.1
        exact cF_on r (by omega)
      refine lp_X11_orderS (g := g) hr (fun i => ?_) _ _ _ rfl (by decide) (by decide) (Int.natCast_nonneg _) (by omega) (by show ((v / fcN k : Nat) : Int) < cF r 6 0; rw [hcF]; omega) rfl
      refine zr_iload (pc := 86) dX11_orderOf_86 rfl ?_
      refine zr_iconst (pc := 88) dX11_orderOf_88 ?_
      refine zr_iload (pc := 89) dX11_orderOf_89 rfl ?_
      refine zr_ishl (pc := 91) dX11_orderOf_91 ?_
      refine zr_iconst (pc := 92) dX11_orderOf_92 ?_
      refine zr_ixor (pc := 93) dX11_orderOf_93 ?_
      refine zr_iand (pc := 94) dX11_orderOf_94 ?_
      refine zr_istore (pc := 95) dX11_orderOf_95 (Nat.le_of_ble_eq_true rfl) rfl ?_
      refine zr_bipush (pc := 97) dX11_orderOf_97 (by decide) ?_
      refine zr_iload (pc := 99) dX11_orderOf_99 rfl ?_
      refine zr_imul (pc := 101) dX11_orderOf_101 ?_
      refine zr_iload (pc := 102) dX11_orderOf_102 rfl ?_
      refine zr_iadd (pc := 104) dX11_orderOf_104 ?_
      refine zr_iconst (pc := 105) dX11_orderOf_105 ?_
      refine zr_iadd (pc := 106) dX11_orderOf_106 ?_
      refine zr_istore (pc := 107) dX11_orderOf_107 (Nat.le_of_ble_eq_true rfl) rfl ?_
      refine zr_iinc (pc := 109) dX11_orderOf_109 rfl (Nat.le_of_ble_eq_true rfl) rfl ?_
      refine zr_goto (pc := 112) (tgt := 16) dX11_orderOf_112 (by decide) ?_
      rw [show ((k + 1 : Nat) : Int) + -1 = ((k : Nat) : Int) by omega]
      have hrm := rm_i hr hn.1
      have hon2 := rm_on hr hn.1 hn.2
      exact ih _ (by omega) k (v % fcN k) _ _ _ _ rfl (by omega) ⟨hrm.1.1, by show rmB r (nthF r 6 0 ((v / fcN k : Nat) : Int)) < 64; omega⟩ (by
        show on6 (rmB r (nthF r 6 0 ((v / fcN k : Nat) : Int))) = _
        omega) (Nat.mod_lt _ (fcN_pos k)) hR

set_option maxRecDepth 100000 in
set_option maxHeartbeats 4000000 in
theorem ct_X11_orderOf {g : zt_G} {M : zm_M} {q : Int → zm_M → Prop} {r : Int} {n v : Nat} (hn : n ≤ 6) (hr : 0 ≤ r ∧ r < 64) (hon : on6 r = (n : Int)) (hv : v < fcN n) (h : q (figL 0 (sqF n r v)) M) : zc_K g yX11_orderOf mX11_orderOf [zv_r 46, zv_i ((v : Nat) : Int), zv_i r, zv_i ((n : Nat) : Int), zv_i ((fcN n : Nat) : Int)] M (zq_I q) := by
  refine zc_of (ls := [some (zv_r 46), some (zv_i ((v : Nat) : Int)), some (zv_i r), some (zv_i ((n : Nat) : Int)), some (zv_i ((fcN n : Nat) : Int)), none, none, none, none, none, none, none]) (by decide) rfl ⟨rfl, rfl⟩ (Nat.le_of_ble_eq_true rfl) rfl ?_
  refine zr_iload_n (pc := 0) dX11_orderOf_0 rfl rfl ?_
  refine zr_istore (pc := 1) dX11_orderOf_1 (Nat.le_of_ble_eq_true rfl) rfl ?_
  refine zr_iload (pc := 3) dX11_orderOf_3 rfl ?_
  refine zr_istore (pc := 5) dX11_orderOf_5 (Nat.le_of_ble_eq_true rfl) rfl ?_
  refine zr_iload_n (pc := 7) dX11_orderOf_7 rfl rfl ?_
  refine zr_istore (pc := 8) dX11_orderOf_8 (Nat.le_of_ble_eq_true rfl) rfl ?_
  refine zr_iconst (pc := 10) dX11_orderOf_10 ?_
  refine zr_istore (pc := 11) dX11_orderOf_11 (Nat.le_of_ble_eq_true rfl) rfl ?_
  refine zr_iload_n (pc := 13) dX11_orderOf_13 rfl rfl ?_
  refine zr_istore (pc := 14) dX11_orderOf_14 (Nat.le_of_ble_eq_true rfl) rfl ?_
  exact lp_X11_orderOf (g := g) h _ n v r 0 _ _ rfl hn hr hon hv rfl

set_option maxRecDepth 100000 in
set_option maxHeartbeats 4000000 in
theorem lp_X11_isOrderK {g : zt_G} {M Mx : zm_M} {q : Int → zm_M → Prop} (hw : LW (lvM M)) (hfr : ∀ (k : Nat) (i : Int), k ≠ 58 → Mx k i = M k i) (hp6 : ∀ g j, (0 ≤ g ∧ g < M 46 0) → (0 ≤ j ∧ j < M 48 g) → 0 ≤ Mx 58 (M 49 (4 * g + j)) ∧ Mx 58 (M 49 (4 * g + j)) < 6) {a1 a2 a3 a4 a5 d : Int} (hd : 0 ≤ d ∧ d < M 46 0) {b0 : Bool} (ho : ∀ (x : Int) (x8 : Option zv_A), x = zb_B (prG (Mx 58) (lvM M) d b0 ((lvM M).2.2.1 d - 1).toNat = true) → zc_Z g mX11_isOrder 101 [some (zv_r 46), some (zv_i a1), some (zv_i a2), some (zv_i a3), some (zv_i a4), some (zv_i a5), some (zv_i x), some (zv_i (d + 1)), x8] [] Mx (zq_I q)) : ∀ (nn : Nat) (x k : Int), (M 48 d - k).toNat = nn → 1 ≤ k → (k ≤ M 48 d ∨ k = 1) → x = zb_B (prG (Mx 58) (lvM M) d b0 (k - 1).toNat = true) → zc_Z g mX11_isOrder 113 [some (zv_r 46), some (zv_i a1), some (zv_i a2), some (zv_i a3), some (zv_i a4), some (zv_i a5), some (zv_i x), some (zv_i d), some (zv_i k)] [] Mx (zq_I q) := by
  intro nn
  induction nn using Nat.strongRecOn with
  | ind nn ih =>
    intro x k hnn h0 h1 hx
    have hk4 := yMk hw
    have hy := yM hw hd
    have e48 : Mx 48 d = M 48 d := hfr _ _ (by decide)
    have hx1 : x = 0 ∨ x = 1 := by rw [hx]; exact zb_01
    refine zr_iload (pc := 113) dX11_isOrder_113 rfl ?_
    refine zr_aload_n (pc := 115) dX11_isOrder_115 rfl rfl ?_
    refine zr_getR (pc := 116) fX11_13 lo_46 rfl rfl dX11_isOrder_116 ?_
    refine zr_iload (pc := 119) dX11_isOrder_119 rfl ?_
    refine zr_iaload (pc := 121) lo_48 (by omega) dX11_isOrder_121 ?_
    refine zi_icmp_ge (pc := 122) (tgt := 182) dX11_isOrder_122 (by decide) (by omega) (by omega) (fun h122 => ?_) (fun h122 => ?_)
    · refine zr_iinc (pc := 182) dX11_isOrder_182 rfl (Nat.le_of_ble_eq_true rfl) rfl ?_
      refine zr_goto (pc := 185) (tgt := 101) dX11_isOrder_185 (by decide) ?_
      exact ho _ _ (by rw [hx, lM_d hd, show (k - 1).toNat = (M 48 d - 1).toNat by omega])
    · have y1 := yMl hw hd (k := k - 1) (by omega)
      have y2 := yMl hw hd (k := k) (by omega)
      have p1 := hp6 d (k - 1) hd (by omega)
      have p2 := hp6 d k hd (by omega)
      have e1 : Mx 49 (4 * d + k - 1) = M 49 (4 * d + (k - 1)) := by rw [hfr _ _ (by decide), show 4 * d + k - 1 = 4 * d + (k - 1) by omega]
      have e2 : Mx 49 (4 * d + k) = M 49 (4 * d + k) := hfr _ _ (by decide)
      have hst : prG (Mx 58) (lvM M) d b0 (k + 1 - 1).toNat = (prG (Mx 58) (lvM M) d b0 (k - 1).toNat && decide (Mx 58 (M 49 (4 * d + (k - 1))) < Mx 58 (M 49 (4 * d + k)))) := by
        unfold prG
        rw [show (k + 1 - 1).toNat = (k - 1 + 1).toNat by omega, fo_s (by omega), lM_y hd (by omega), lM_y hd (by omega), show k - 1 + 1 = k by omega]
      refine zr_iload (pc := 125) dX11_isOrder_125 rfl ?_
      refine zi_if_eq (pc := 127) (tgt := 173) dX11_isOrder_127 (by decide) (by omega) (fun h127 => ?_) (fun h127 => ?_)
      · refine zr_iconst (pc := 173) dX11_isOrder_173 ?_
        refine zr_istore (pc := 174) dX11_isOrder_174 (Nat.le_of_ble_eq_true rfl) rfl ?_
        refine zr_iinc (pc := 176) dX11_isOrder_176 rfl (Nat.le_of_ble_eq_true rfl) rfl ?_
        refine zr_goto (pc := 179) (tgt := 113) dX11_isOrder_179 (by decide) ?_
        exact ih _ (by omega) _ _ rfl (by omega) (by omega) (by
          rw [hst]
          refine zb_F (fun y => ?_)
          have y3 := (Bool.and_eq_true _ _).mp y
          rw [zb_B, if_pos y3.1] at hx
          omega)
      · refine zr_aload_n (pc := 130) dX11_isOrder_130 rfl rfl ?_
        refine zr_getR (pc := 131) fX11_43 lo_46 rfl rfl dX11_isOrder_131 ?_
        refine zr_aload_n (pc := 134) dX11_isOrder_134 rfl rfl ?_
        refine zr_getR (pc := 135) fX11_16 lo_46 rfl rfl dX11_isOrder_135 ?_
        refine zr_iconst (pc := 138) dX11_isOrder_138 ?_
        refine zr_iload (pc := 139) dX11_isOrder_139 rfl ?_
        refine zr_imul (pc := 141) dX11_isOrder_141 ?_
        refine zr_iload (pc := 142) dX11_isOrder_142 rfl ?_
        refine zr_iadd (pc := 144) dX11_isOrder_144 ?_
        refine zr_iconst (pc := 145) dX11_isOrder_145 ?_
        refine zr_isub (pc := 146) dX11_isOrder_146 ?_
        refine zr_iaload (pc := 147) lo_49 (by omega) dX11_isOrder_147 ?_
        rw [e1]
        refine zr_iaload (pc := 148) lo_58 (by omega) dX11_isOrder_148 ?_
        refine zr_aload_n (pc := 149) dX11_isOrder_149 rfl rfl ?_
        refine zr_getR (pc := 150) fX11_43 lo_46 rfl rfl dX11_isOrder_150 ?_
        refine zr_aload_n (pc := 153) dX11_isOrder_153 rfl rfl ?_
        refine zr_getR (pc := 154) fX11_16 lo_46 rfl rfl dX11_isOrder_154 ?_
        refine zr_iconst (pc := 157) dX11_isOrder_157 ?_
        refine zr_iload (pc := 158) dX11_isOrder_158 rfl ?_
        refine zr_imul (pc := 160) dX11_isOrder_160 ?_
        refine zr_iload (pc := 161) dX11_isOrder_161 rfl ?_
        refine zr_iadd (pc := 163) dX11_isOrder_163 ?_
        refine zr_iaload (pc := 164) lo_49 (by omega) dX11_isOrder_164 ?_
        rw [e2]
        refine zr_iaload (pc := 165) lo_58 (by omega) dX11_isOrder_165 ?_
        refine zi_icmp_ge (pc := 166) (tgt := 173) dX11_isOrder_166 (by decide) (by omega) (by omega) (fun h166 => ?_) (fun h166 => ?_)
        · refine zr_iconst (pc := 173) dX11_isOrder_173 ?_
          refine zr_istore (pc := 174) dX11_isOrder_174 (Nat.le_of_ble_eq_true rfl) rfl ?_
          refine zr_iinc (pc := 176) dX11_isOrder_176 rfl (Nat.le_of_ble_eq_true rfl) rfl ?_
          refine zr_goto (pc := 179) (tgt := 113) dX11_isOrder_179 (by decide) ?_
          exact ih _ (by omega) _ _ rfl (by omega) (by omega) (by
            rw [hst]
            refine zb_F (fun y => ?_)
            have y3 := of_decide_eq_true ((Bool.and_eq_true _ _).mp y).2
            omega)
        · refine zr_iconst (pc := 169) dX11_isOrder_169 ?_
          refine zr_goto (pc := 170) (tgt := 174) dX11_isOrder_170 (by decide) ?_
          refine zr_istore (pc := 174) dX11_isOrder_174 (Nat.le_of_ble_eq_true rfl) rfl ?_
          refine zr_iinc (pc := 176) dX11_isOrder_176 rfl (Nat.le_of_ble_eq_true rfl) rfl ?_
          refine zr_goto (pc := 179) (tgt := 113) dX11_isOrder_179 (by decide) ?_
          exact ih _ (by omega) _ _ rfl (by omega) (by omega) (by
            rw [hst]
            refine zb_T ((Bool.and_eq_true _ _).mpr ⟨?_, decide_eq_true h166⟩)
            rw [hx] at h127
            unfold zb_B at h127
            split at h127
            · assumption
            · exact absurd rfl h127)

set_option maxRecDepth 100000 in
set_option maxHeartbeats 4000000 in
theorem lp_X11_isOrderG {g : zt_G} {M Mx : zm_M} {q : Int → zm_M → Prop} (hw : LW (lvM M)) {Pl : List Int} {n : Nat} (hn : n ≤ 6) (hP : sqO (bitL (lvM M)) n Pl) (h : ∀ M2, (∀ (k : Nat) (i : Int), k ≠ 58 → M2 k i = M k i) → (∀ (j : Nat) (l : Int), Pl[j]? = some l → M2 58 l = (j : Int)) → q (zb_B (prB (M2 58) (lvM M) (lvM M).1.toNat = true)) M2) (hfr : ∀ (k : Nat) (i : Int), k ≠ 58 → Mx k i = M k i) (hpos : ∀ (j : Nat) (l : Int), Pl[j]? = some l → Mx 58 l = (j : Int)) {a1 a2 a3 a4 a5 : Int} : ∀ (nn : Nat) (x d : Int) (x8 : Option zv_A), (M 46 0 - d).toNat = nn → 0 ≤ d → d ≤ M 46 0 → x = zb_B (prB (Mx 58) (lvM M) d.toNat = true) → zc_Z g mX11_isOrder 101 [some (zv_r 46), some (zv_i a1), some (zv_i a2), some (zv_i a3), some (zv_i a4), some (zv_i a5), some (zv_i x), some (zv_i d), x8] [] Mx (zq_I q) := by
  intro nn
  induction nn using Nat.strongRecOn with
  | ind nn ih =>
    intro x d x8 hnn h0 h1 hx
    have hk4 := yMk hw
    have e0 : Mx 46 0 = M 46 0 := hfr _ _ (by decide)
    refine zr_iload (pc := 101) dX11_isOrder_101 rfl ?_
    refine zr_aload_n (pc := 103) dX11_isOrder_103 rfl rfl ?_
    refine zr_getI (pc := 104) (z := 0) fX11_107 lo_46 rfl rfl rfl dX11_isOrder_104 ?_
    refine zi_icmp_ge (pc := 107) (tgt := 188) dX11_isOrder_107 (by decide) (by omega) (by omega) (fun h107 => ?_) (fun h107 => ?_)
    · subst hx
      refine zr_iload (pc := 188) dX11_isOrder_188 rfl ?_
      exact zr_zreturn (pc := 190) dX11_isOrder_190 rfl zb_01 (zq_eq (h Mx hfr hpos) (by rw [show d = M 46 0 by omega]; rfl))
    · refine zr_iconst (pc := 110) dX11_isOrder_110 ?_
      refine zr_istore (pc := 111) dX11_isOrder_111 (Nat.le_of_ble_eq_true rfl) rfl ?_
      refine lp_X11_isOrderK (g := g) (b0 := prB (Mx 58) (lvM M) d.toNat) hw hfr (fun k j hk hj => ?_) ⟨h0, by omega⟩ (fun y y8 hy => ih _ (by omega) y (d + 1) y8 rfl (by omega) (by omega) (by
        rw [hy]
        unfold prB
        rw [fo_s h0])) _ _ _ rfl (by decide) (Or.inr rfl) (by rw [hx]; rfl)
      have hb := bt_bitL hw (g := k) (j := j) hk (by rw [lM_d hk]; exact hj)
      have hy := hw.2.2 k j
      rw [lM_y hk hj] at hb hy
      obtain ⟨i, hi⟩ := hP.2.2.2 _ hy.1 (by omega) hb
      rw [hpos i _ hi]
      have := (List.getElem?_eq_some_iff.mp hi).1
      have := hP.1
      omega

set_option maxRecDepth 100000 in
set_option maxHeartbeats 4000000 in
theorem lp_X11_isOrder {g : zt_G} {M : zm_M} {q : Int → zm_M → Prop} (hw : LW (lvM M)) {Pl : List Int} {n : Nat} (hn : n ≤ 6) (hP : sqO (bitL (lvM M)) n Pl) (h : ∀ M2, (∀ (k : Nat) (i : Int), k ≠ 58 → M2 k i = M k i) → (∀ (j : Nat) (l : Int), Pl[j]? = some l → M2 58 l = (j : Int)) → q (zb_B (prB (M2 58) (lvM M) (lvM M).1.toNat = true)) M2) {a1 a2 : Int} : ∀ (nn : Nat) (mt lf k : Int) (x7 x8 : Option zv_A) (Mx : zm_M), (k + 1).toNat = nn → -1 ≤ k → k < n → lf = figL 0 (Pl.take (k + 1).toNat) → (0 ≤ mt ∧ mt < 64) → (∀ l, 0 ≤ l → l < 6 → bt mt l = true → ∃ j : Nat, k < (j : Int) ∧ Pl[j]? = some l) → (∀ (k : Nat) (i : Int), k ≠ 58 → Mx k i = M k i) → (∀ (j : Nat) (l : Int), k < (j : Int) → Pl[j]? = some l → Mx 58 l = (j : Int)) → zc_Z g mX11_isOrder 16 [some (zv_r 46), some (zv_i a1), some (zv_i a2), some (zv_i (bitL (lvM M))), some (zv_i mt), some (zv_i lf), some (zv_i k), x7, x8] [] Mx (zq_I q) := by
  intro nn
  induction nn using Nat.strongRecOn with
  | ind nn ih =>
    intro mt lf k x7 x8 Mx hnn h0 h1 hlf hmt hmb hfr hpos
    have hbl := bitL_in hw
    have hlen := hP.1
    refine zr_iload (pc := 16) dX11_isOrder_16 rfl ?_
    refine zi_if_lt (pc := 18) (tgt := 95) dX11_isOrder_18 (by decide) (by omega) (fun h18 => ?_) (fun h18 => ?_)
    · refine zr_iconst (pc := 95) dX11_isOrder_95 ?_
      refine zr_istore (pc := 96) dX11_isOrder_96 (Nat.le_of_ble_eq_true rfl) rfl ?_
      refine zr_iconst (pc := 98) dX11_isOrder_98 ?_
      refine zr_istore (pc := 99) dX11_isOrder_99 (Nat.le_of_ble_eq_true rfl) rfl ?_
      exact lp_X11_isOrderG (g := g) hw hn hP h hfr (fun j l hj => hpos j l (by omega) hj) _ _ _ _ rfl (by decide) (yMk hw).1 rfl
    · obtain ⟨l, hl⟩ : ∃ l, Pl[k.toNat]? = some l := ⟨Pl[k.toNat]'(by omega), List.getElem?_eq_getElem (by omega)⟩
      have hlm := hP.2.1 _ _ hl
      have htk : Pl.take (k + 1).toNat = Pl.take k.toNat ++ [l] := by
        rw [show (k + 1).toNat = k.toNat + 1 by omega, List.take_add_one, hl]
        rfl
      have hfi := fig_in k.toNat (Pl.take k.toNat) (by rw [List.length_take]; omega) (fun j x hj => (hP.2.1 j x (by
        have h8 := (List.getElem?_eq_some_iff.mp hj).1
        rw [List.length_take] at h8
        rw [List.getElem?_take_of_lt (by omega)] at hj
        exact hj)).1) 0 (by decide)
      have ht6 := t106 (n := k.toNat) (by omega)
      rw [htk, fig_ap] at hlf
      have em : lf % 10 - 1 = l := by omega
      have ed : lf / 10 = figL 0 (Pl.take k.toNat) := by omega
      refine zr_iload (pc := 21) dX11_isOrder_21 rfl ?_
      refine zr_bipush (pc := 23) dX11_isOrder_23 (by decide) ?_
      refine zr_irem (pc := 25) (by omega) (by omega) dX11_isOrder_25 ?_
      refine zr_iconst (pc := 26) dX11_isOrder_26 ?_
      refine zr_isub (pc := 27) dX11_isOrder_27 ?_
      rw [em]
      refine zr_istore (pc := 28) dX11_isOrder_28 (Nat.le_of_ble_eq_true rfl) rfl ?_
      refine zr_iload (pc := 30) dX11_isOrder_30 rfl ?_
      refine zr_bipush (pc := 32) dX11_isOrder_32 (by decide) ?_
      refine zr_idiv (pc := 34) (by omega) (by omega) dX11_isOrder_34 ?_
      rw [ed]
      refine zr_istore (pc := 35) dX11_isOrder_35 (Nat.le_of_ble_eq_true rfl) rfl ?_
      refine zr_iload (pc := 37) dX11_isOrder_37 rfl ?_
      refine zr_i2l (pc := 39) dX11_isOrder_39 ?_
      refine zr_lconst (pc := 40) (z := 0) dX11_isOrder_40 (by decide +kernel) ?_
      refine zr_ldc2 (pc := 41) (z := 5) rfl kX11_210 (by decide +kernel) dX11_isOrder_41 ?_
      refine zr_stat3I (pc := 44) rfl sX11_61 rfl rfl dX11_isOrder_44 ?_
      refine in_i (by omega) (by omega) (by omega) ?_
      refine zr_ifb_eq (pc := 47) (tgt := 69) dX11_isOrder_47 (by decide) (fun h47 => ?_) (fun h47 => ?_)
      · refine zr_iconst (pc := 69) dX11_isOrder_69 ?_
        exact zr_zreturn (pc := 70) dX11_isOrder_70 rfl (by decide) (absurd (show (0 : Int) ≤ l ∧ l ≤ 5 by omega) h47)
      · refine zr_iload_n (pc := 50) dX11_isOrder_50 rfl rfl ?_
        refine zr_iload (pc := 51) dX11_isOrder_51 rfl ?_
        refine zr_stat2I (pc := 53) rfl sX11_75 rfl rfl dX11_isOrder_53 ?_
        refine ct_X11_has (by omega) (by omega) ?_
        refine zr_ifb_eq (pc := 56) (tgt := 69) dX11_isOrder_56 (by decide) (fun h56 => ?_) (fun h56 => ?_)
        · refine zr_iconst (pc := 69) dX11_isOrder_69 ?_
          exact zr_zreturn (pc := 70) dX11_isOrder_70 rfl (by decide) (absurd hlm.2 h56)
        · refine zr_iload (pc := 59) dX11_isOrder_59 rfl ?_
          refine zr_iload (pc := 61) dX11_isOrder_61 rfl ?_
          refine zr_stat2I (pc := 63) rfl sX11_75 rfl rfl dX11_isOrder_63 ?_
          refine ct_X11_has (by omega) (by omega) ?_
          refine zr_ifb_eq (pc := 66) (tgt := 71) dX11_isOrder_66 (by decide) (fun h66 => ?_) (fun h66 => ?_)
          · refine zr_iload (pc := 71) dX11_isOrder_71 rfl ?_
            refine zr_iconst (pc := 73) dX11_isOrder_73 ?_
            refine zr_iload (pc := 74) dX11_isOrder_74 rfl ?_
            refine zr_ishl (pc := 76) dX11_isOrder_76 ?_
            refine zr_ior (pc := 77) dX11_isOrder_77 ?_
            refine zr_istore (pc := 78) dX11_isOrder_78 (Nat.le_of_ble_eq_true rfl) rfl ?_
            refine zr_aload_n (pc := 80) dX11_isOrder_80 rfl rfl ?_
            refine zr_getR (pc := 81) fX11_43 lo_46 rfl rfl dX11_isOrder_81 ?_
            refine zr_iload (pc := 84) dX11_isOrder_84 rfl ?_
            refine zr_iload (pc := 86) dX11_isOrder_86 rfl ?_
            refine zr_iastore (pc := 88) lo_58 (by omega) dX11_isOrder_88 ?_
            refine zr_iinc (pc := 89) dX11_isOrder_89 rfl (Nat.le_of_ble_eq_true rfl) rfl ?_
            refine zr_goto (pc := 92) (tgt := 16) dX11_isOrder_92 (by decide) ?_
            have horb := or6 hmt hlm.1
            refine ih _ (by omega) _ _ _ _ _ _ rfl (by omega) (by omega) (by rw [show (k + -1 + 1).toNat = k.toNat by omega]) horb (fun j j0 j1 hj => ?_) (fun k2 i a => by rw [put_nk _ _ _ _ a]; exact hfr k2 i a) (fun j x hj hx => ?_)
            · rw [show zb_or mt (zb_shl 1 l) = orB mt l from rfl, bt_orB hmt hlm.1 j0, Bool.or_eq_true, decide_eq_true_eq] at hj
              rcases hj with hj | hj
              · obtain ⟨i, a, b⟩ := hmb j j0 j1 hj
                exact ⟨i, by omega, b⟩
              · exact ⟨k.toNat, by omega, by rw [hj]; exact hl⟩
            · by_cases e : x = l
              · rw [e] at hx ⊢
                have e2 := hP.2.2.1 _ _ _ hl hx
                rw [put_at]
                omega
              · rw [put_ni _ _ e]
                refine hpos j x ?_ hx
                by_cases e2 : (j : Int) = k
                · rw [show j = k.toNat by omega, hl] at hx
                  cases hx
                  exact absurd rfl e
                · omega
          · refine zr_iconst (pc := 69) dX11_isOrder_69 ?_
            exact zr_zreturn (pc := 70) dX11_isOrder_70 rfl (by decide) (absurd (show False from by
                obtain ⟨j, a, b⟩ := hmb l hlm.1.1 hlm.1.2 h66
                have := hP.2.2.1 _ _ _ hl b
                omega) (fun y => y))

set_option maxRecDepth 100000 in
set_option maxHeartbeats 4000000 in
theorem ct_X11_isOrder {g : zt_G} {M : zm_M} {q : Int → zm_M → Prop} (hw : LW (lvM M)) {Pl : List Int} {n : Nat} (hn : n ≤ 6) (hP : sqO (bitL (lvM M)) n Pl) (h : ∀ M2, (∀ (k : Nat) (i : Int), k ≠ 58 → M2 k i = M k i) → (∀ (j : Nat) (l : Int), Pl[j]? = some l → M2 58 l = (j : Int)) → q (zb_B (prB (M2 58) (lvM M) (lvM M).1.toNat = true)) M2) : zc_K g yX11_isOrder mX11_isOrder [zv_r 46, zv_i (figL 0 Pl), zv_i ((n : Nat) : Int)] M (zq_I q) := by
  refine zc_of (ls := [some (zv_r 46), some (zv_i (figL 0 Pl)), some (zv_i ((n : Nat) : Int)), none, none, none, none, none, none]) (by decide) rfl ⟨rfl, rfl⟩ (Nat.le_of_ble_eq_true rfl) rfl ?_
  refine zr_aload_n (pc := 0) dX11_isOrder_0 rfl rfl ?_
  refine zr_inv0I (pc := 1) rfl sX11_207 lo_46 rfl rfl rfl dX11_isOrder_1 ?_
  refine ct_X11_allLayers hw ?_
  refine zr_istore_n (pc := 4) dX11_isOrder_4 rfl (Nat.le_of_ble_eq_true rfl) rfl ?_
  refine zr_iconst (pc := 5) dX11_isOrder_5 ?_
  refine zr_istore (pc := 6) dX11_isOrder_6 (Nat.le_of_ble_eq_true rfl) rfl ?_
  refine zr_iload_n (pc := 8) dX11_isOrder_8 rfl rfl ?_
  refine zr_istore (pc := 9) dX11_isOrder_9 (Nat.le_of_ble_eq_true rfl) rfl ?_
  refine zr_iload_n (pc := 11) dX11_isOrder_11 rfl rfl ?_
  refine zr_iconst (pc := 12) dX11_isOrder_12 ?_
  refine zr_isub (pc := 13) dX11_isOrder_13 ?_
  refine zr_istore (pc := 14) dX11_isOrder_14 (Nat.le_of_ble_eq_true rfl) rfl ?_
  exact lp_X11_isOrder (g := g) hw hn hP h _ _ _ _ _ _ M rfl (by omega) (by omega) (by rw [show ((n : Int) - 1 + 1).toNat = Pl.length by have := hP.1; omega, List.take_length]) (by decide) (fun l _ _ hl => absurd hl (bt0 l)) (fun _ _ _ => rfl) (fun j l hj hl => by
    have h8 := (List.getElem?_eq_some_iff.mp hl).1
    have := hP.1
    omega)

theorem fn_i (V : Nat → Bool) (F : Nat → Int) : ∀ n : Nat, 0 ≤ (fnB V F (0, -9) n).1 ∧ (fnB V F (0, -9) n).1 ≤ n
  | 0 => ⟨Int.le_refl 0, Int.le_refl 0⟩
  | n + 1 => by
    have ih := fn_i V F n
    show 0 ≤ (if V n = true then ((fnB V F (0, -9) n).1 + 1, if (fnB V F (0, -9) n).1 = 0 then F n else (fnB V F (0, -9) n).2) else fnB V F (0, -9) n).1 ∧ (if V n = true then ((fnB V F (0, -9) n).1 + 1, if (fnB V F (0, -9) n).1 = 0 then F n else (fnB V F (0, -9) n).2) else fnB V F (0, -9) n).1 ≤ ((n + 1 : Nat) : Int)
    split
    · show 0 ≤ (fnB V F (0, -9) n).1 + 1 ∧ (fnB V F (0, -9) n).1 + 1 ≤ ((n + 1 : Nat) : Int)
      omega
    · omega
theorem fn_s (V : Nat → Bool) (F : Nat → Int) (st : Int × Int) (n : Nat) : fnB V F st (n + 1) = if V n = true then ((fnB V F st n).1 + 1, if (fnB V F st n).1 = 0 then F n else (fnB V F st n).2) else fnB V F st n := rfl
set_option maxRecDepth 100000 in
set_option maxHeartbeats 4000000 in
theorem lp_X11_countW {g : zt_G} {M : zm_M} {q : zm_M → Prop} (hw : LW (lvM M)) {n : Nat} (hn : on6 (bitL (lvM M)) = (n : Int)) (h : ∀ M2, (∀ (k : Nat) (i : Int), k ≠ 58 → ¬ (k = 46 ∧ (i = 23 ∨ i = 24)) → M2 k i = M k i) → M2 46 23 = (fnB (fun i => lsV (abv (lvM M) (lvM M).1.toNat) 0 (sqF n (bitL (lvM M)) i)) (fun i => figL 0 (sqF n (bitL (lvM M)) i)) (0, -9) (fcN n)).1 → M2 46 24 = (fnB (fun i => lsV (abv (lvM M) (lvM M).1.toNat) 0 (sqF n (bitL (lvM M)) i)) (fun i => figL 0 (sqF n (bitL (lvM M)) i)) (0, -9) (fcN n)).2 → q M2) : ∀ (nn : Nat) (v : Nat) (x5 : Option zv_A) (Mx : zm_M), fcN n - v = nn → v ≤ fcN n → (∀ (k : Nat) (i : Int), k ≠ 58 → ¬ (k = 46 ∧ (i = 23 ∨ i = 24)) → Mx k i = M k i) → Mx 46 23 = (fnB (fun i => lsV (abv (lvM M) (lvM M).1.toNat) 0 (sqF n (bitL (lvM M)) i)) (fun i => figL 0 (sqF n (bitL (lvM M)) i)) (0, -9) v).1 → Mx 46 24 = (fnB (fun i => lsV (abv (lvM M) (lvM M).1.toNat) 0 (sqF n (bitL (lvM M)) i)) (fun i => figL 0 (sqF n (bitL (lvM M)) i)) (0, -9) v).2 → zc_Z g mX11_countOrders 46 [some (zv_r 46), some (zv_i (bitL (lvM M))), some (zv_i ((n : Nat) : Int)), some (zv_i ((fcN n : Nat) : Int)), some (zv_i ((v : Nat) : Int)), x5] [] Mx (zq_V q) := by
  intro nn
  induction nn using Nat.strongRecOn with
  | ind nn ih =>
    intro v x5 Mx hnn h1 hfr h23 h24
    have hbl := bitL_in hw
    have hoi := on6_i hbl
    have hfc := fc720 (n := n) (by omega)
    have hlx : lvM Mx = lvM M := lvM_fr (hfr _ _ (by decide) (by decide)) (fun k i a b => hfr k i (by omega) (by omega))
    have hci := fn_i (fun i => lsV (abv (lvM M) (lvM M).1.toNat) 0 (sqF n (bitL (lvM M)) i)) (fun i => figL 0 (sqF n (bitL (lvM M)) i)) v
    refine zr_iload (pc := 46) dX11_countOrders_46 rfl ?_
    refine zr_iload_n (pc := 48) dX11_countOrders_48 rfl rfl ?_
    refine zi_icmp_ge (pc := 49) (tgt := 109) dX11_countOrders_49 (by decide) (by omega) (by omega) (fun h49 => ?_) (fun h49 => ?_)
    · exact zr_return (pc := 109) dX11_countOrders_109 rfl (h Mx hfr (by rw [h23, show v = fcN n by omega]) (by rw [h24, show v = fcN n by omega]))
    · have hs := fn_s (fun i => lsV (abv (lvM M) (lvM M).1.toNat) 0 (sqF n (bitL (lvM M)) i)) (fun i => figL 0 (sqF n (bitL (lvM M)) i)) (0, -9) v
      refine zr_aload_n (pc := 52) dX11_countOrders_52 rfl rfl ?_
      refine zr_iload (pc := 53) dX11_countOrders_53 rfl ?_
      refine zr_iload_n (pc := 55) dX11_countOrders_55 rfl rfl ?_
      refine zr_iload_n (pc := 56) dX11_countOrders_56 rfl rfl ?_
      refine zr_iload_n (pc := 57) dX11_countOrders_57 rfl rfl ?_
      refine zr_inv4I (pc := 58) rfl sX11_218 lo_46 rfl rfl rfl dX11_countOrders_58 ?_
      refine ct_X11_orderOf (by omega) hbl hn (by omega) ?_
      refine zr_istore (pc := 61) dX11_countOrders_61 (Nat.le_of_ble_eq_true rfl) rfl ?_
      refine zr_aload_n (pc := 63) dX11_countOrders_63 rfl rfl ?_
      refine zr_iload (pc := 64) dX11_countOrders_64 rfl ?_
      refine zr_iload_n (pc := 66) dX11_countOrders_66 rfl rfl ?_
      refine zr_inv2I (pc := 67) rfl sX11_222 lo_46 rfl rfl rfl dX11_countOrders_67 ?_
      have hsq := sq_ok n (bitL (lvM M)) v hbl hn (by omega)
      refine ct_X11_isOrder (by rw [hlx]; exact hw) (by omega) (by rw [hlx]; exact hsq) (fun M2 hf2 hpos => ?_)
      rw [hlx, V_eq hw hsq hpos]
      have e23 : M2 46 23 = ((fnB (fun i => lsV (abv (lvM M) (lvM M).1.toNat) 0 (sqF n (bitL (lvM M)) i)) (fun i => figL 0 (sqF n (bitL (lvM M)) i)) (0, -9) v)).1 := by rw [hf2 _ _ (by decide)]; exact h23
      have e24 : M2 46 24 = ((fnB (fun i => lsV (abv (lvM M) (lvM M).1.toNat) 0 (sqF n (bitL (lvM M)) i)) (fun i => figL 0 (sqF n (bitL (lvM M)) i)) (0, -9) v)).2 := by rw [hf2 _ _ (by decide)]; exact h24
      have hfr2 : ∀ (k : Nat) (i : Int), k ≠ 58 → ¬ (k = 46 ∧ (i = 23 ∨ i = 24)) → M2 k i = M k i := fun k i a b => by rw [hf2 k i a]; exact hfr k i a b
      refine zr_ifb_eq (pc := 70) (tgt := 103) dX11_countOrders_70 (by decide) (fun h70 => ?_) (fun h70 => ?_)
      · refine zr_iinc (pc := 103) dX11_countOrders_103 rfl (Nat.le_of_ble_eq_true rfl) rfl ?_
        refine zr_goto (pc := 106) (tgt := 46) dX11_countOrders_106 (by decide) ?_
        rw [show (v : Int) + 1 = ((v + 1 : Nat) : Int) by omega]
        rw [if_neg h70] at hs
        exact ih _ (by omega) (v + 1) _ _ rfl (by omega) hfr2 (by rw [hs]; exact e23) (by rw [hs]; exact e24)
      · refine zr_aload_n (pc := 73) dX11_countOrders_73 rfl rfl ?_
        refine zr_aload_n (pc := 74) dX11_countOrders_74 rfl rfl ?_
        refine zr_getI (pc := 75) (z := 23) fX11_212 lo_46 rfl rfl rfl dX11_countOrders_75 ?_
        rw [e23]
        refine zi_if_ne (pc := 78) (tgt := 86) dX11_countOrders_78 (by decide) (by omega) (fun h78 => ?_) (fun h78 => ?_)
        · refine zr_aload_n (pc := 86) dX11_countOrders_86 rfl rfl ?_
          refine zr_getI (pc := 87) (z := 24) fX11_215 lo_46 rfl rfl rfl dX11_countOrders_87 ?_
          refine zr_putI (pc := 90) (z := 24) fX11_215 lo_46 rfl fwX11_24 rfl rfl dX11_countOrders_90 ?_
          refine zr_aload_n (pc := 93) dX11_countOrders_93 rfl rfl ?_
          refine zr_dup_r (pc := 94) dX11_countOrders_94 ?_
          refine zr_getI (pc := 95) (z := 23) fX11_212 lo_46 rfl rfl rfl dX11_countOrders_95 ?_
          refine zr_iconst (pc := 98) dX11_countOrders_98 ?_
          refine zr_iadd (pc := 99) dX11_countOrders_99 ?_
          refine zr_putI (pc := 100) (z := 23) fX11_212 lo_46 rfl fwX11_23 rfl rfl dX11_countOrders_100 ?_
          refine zr_iinc (pc := 103) dX11_countOrders_103 rfl (Nat.le_of_ble_eq_true rfl) rfl ?_
          refine zr_goto (pc := 106) (tgt := 46) dX11_countOrders_106 (by decide) ?_
          rw [show (v : Int) + 1 = ((v + 1 : Nat) : Int) by omega]
          rw [if_pos h70] at hs
          exact ih _ (by omega) (v + 1) _ _ rfl (by omega) (fun k i a b => by rw [show zm_put _ 46 23 _ k i = _ from if_neg (by omega), show zm_put _ 46 24 _ k i = _ from if_neg (by omega)]; exact hfr2 k i a b) (by rw [put_at, put_ni _ _ (by decide), hs, e23]) (by rw [put_ni _ _ (by decide), put_at, hs]; dsimp only; rw [if_neg h78, e24])
        · refine zr_iload (pc := 81) dX11_countOrders_81 rfl ?_
          refine zr_goto (pc := 83) (tgt := 90) dX11_countOrders_83 (by decide) ?_
          refine zr_putI (pc := 90) (z := 24) fX11_215 lo_46 rfl fwX11_24 rfl rfl dX11_countOrders_90 ?_
          refine zr_aload_n (pc := 93) dX11_countOrders_93 rfl rfl ?_
          refine zr_dup_r (pc := 94) dX11_countOrders_94 ?_
          refine zr_getI (pc := 95) (z := 23) fX11_212 lo_46 rfl rfl rfl dX11_countOrders_95 ?_
          refine zr_iconst (pc := 98) dX11_countOrders_98 ?_
          refine zr_iadd (pc := 99) dX11_countOrders_99 ?_
          refine zr_putI (pc := 100) (z := 23) fX11_212 lo_46 rfl fwX11_23 rfl rfl dX11_countOrders_100 ?_
          refine zr_iinc (pc := 103) dX11_countOrders_103 rfl (Nat.le_of_ble_eq_true rfl) rfl ?_
          refine zr_goto (pc := 106) (tgt := 46) dX11_countOrders_106 (by decide) ?_
          rw [show (v : Int) + 1 = ((v + 1 : Nat) : Int) by omega]
          rw [if_pos h70] at hs
          exact ih _ (by omega) (v + 1) _ _ rfl (by omega) (fun k i a b => by rw [show zm_put _ 46 23 _ k i = _ from if_neg (by omega), show zm_put _ 46 24 _ k i = _ from if_neg (by omega)]; exact hfr2 k i a b) (by rw [put_at, put_ni _ _ (by decide), hs, e23]) (by rw [put_ni _ _ (by decide), put_at, hs]; dsimp only; rw [if_pos h78])

set_option maxRecDepth 100000 in
set_option maxHeartbeats 4000000 in
theorem lp_X11_countM {g : zt_G} {M : zm_M} {q : zm_M → Prop} (hw : LW (lvM M)) {n : Nat} (hn : on6 (bitL (lvM M)) = (n : Int)) (h : ∀ M2, (∀ (k : Nat) (i : Int), k ≠ 58 → ¬ (k = 46 ∧ (i = 23 ∨ i = 24)) → M2 k i = M k i) → M2 46 23 = (fnB (fun i => lsV (abv (lvM M) (lvM M).1.toNat) 0 (sqF n (bitL (lvM M)) i)) (fun i => figL 0 (sqF n (bitL (lvM M)) i)) (0, -9) (fcN n)).1 → M2 46 24 = (fnB (fun i => lsV (abv (lvM M) (lvM M).1.toNat) 0 (sqF n (bitL (lvM M)) i)) (fun i => figL 0 (sqF n (bitL (lvM M)) i)) (0, -9) (fcN n)).2 → q M2) {Mx : zm_M} (hfr : ∀ (k : Nat) (i : Int), k ≠ 58 → ¬ (k = 46 ∧ (i = 23 ∨ i = 24)) → Mx k i = M k i) (h23 : Mx 46 23 = 0) (h24 : Mx 46 24 = -9) : ∀ (nn : Nat) (k : Nat) (x5 : Option zv_A), n + 1 - k = nn → 2 ≤ k → (k ≤ n + 1 ∨ k = 2) → zc_Z g mX11_countOrders 26 [some (zv_r 46), some (zv_i (bitL (lvM M))), some (zv_i ((n : Nat) : Int)), some (zv_i ((fcN (k - 1) : Nat) : Int)), some (zv_i ((k : Nat) : Int)), x5] [] Mx (zq_V q) := by
  intro nn
  induction nn using Nat.strongRecOn with
  | ind nn ih =>
    intro k x5 hnn h0 h1
    have hbl := bitL_in hw
    have hoi := on6_i hbl
    refine zr_iload (pc := 26) dX11_countOrders_26 rfl ?_
    refine zr_iload_n (pc := 28) dX11_countOrders_28 rfl rfl ?_
    refine zi_icmp_gt (pc := 29) (tgt := 43) dX11_countOrders_29 (by decide) (by omega) (by omega) (fun h29 => ?_) (fun h29 => ?_)
    · refine zr_iconst (pc := 43) dX11_countOrders_43 ?_
      refine zr_istore (pc := 44) dX11_countOrders_44 (Nat.le_of_ble_eq_true rfl) rfl ?_
      have e9 : fcN (k - 1) = fcN n := by
        rcases (by omega : k - 1 = n ∨ (k = 2 ∧ (n = 0 ∨ n = 1))) with e | ⟨e, e2 | e2⟩
        · rw [e]
        · rw [e, e2]
          rfl
        · rw [e, e2]
      rw [e9]
      exact lp_X11_countW (g := g) hw hn h _ 0 _ Mx rfl (Nat.zero_le _) hfr h23 h24
    · refine zr_iload_n (pc := 32) dX11_countOrders_32 rfl rfl ?_
      refine zr_iload (pc := 33) dX11_countOrders_33 rfl ?_
      refine zr_imul (pc := 35) dX11_countOrders_35 ?_
      refine zr_istore_n (pc := 36) dX11_countOrders_36 rfl (Nat.le_of_ble_eq_true rfl) rfl ?_
      refine zr_iinc (pc := 37) dX11_countOrders_37 rfl (Nat.le_of_ble_eq_true rfl) rfl ?_
      refine zr_goto (pc := 40) (tgt := 26) dX11_countOrders_40 (by decide) ?_
      rw [show ((fcN (k - 1) : Nat) : Int) * ((k : Nat) : Int) = ((fcN (k + 1 - 1) : Nat) : Int) by
        obtain ⟨j, rfl⟩ : ∃ j, k = j + 1 := ⟨k - 1, by omega⟩
        rw [show j + 1 + 1 - 1 = j + 1 by omega, show j + 1 - 1 = j by omega, ← Int.natCast_mul, Nat.mul_comm]
        rfl, show (k : Int) + 1 = ((k + 1 : Nat) : Int) by omega]
      exact ih _ (by omega) (k + 1) _ rfl (by omega) (by omega)

set_option maxRecDepth 100000 in
set_option maxHeartbeats 4000000 in
theorem ct_X11_countOrders {g : zt_G} {M : zm_M} {q : zm_M → Prop} (hw : LW (lvM M)) {n : Nat} (hn : on6 (bitL (lvM M)) = (n : Int)) (h : ∀ M2, (∀ (k : Nat) (i : Int), k ≠ 58 → ¬ (k = 46 ∧ (i = 23 ∨ i = 24)) → M2 k i = M k i) → M2 46 23 = (fnB (fun i => lsV (abv (lvM M) (lvM M).1.toNat) 0 (sqF n (bitL (lvM M)) i)) (fun i => figL 0 (sqF n (bitL (lvM M)) i)) (0, -9) (fcN n)).1 → M2 46 24 = (fnB (fun i => lsV (abv (lvM M) (lvM M).1.toNat) 0 (sqF n (bitL (lvM M)) i)) (fun i => figL 0 (sqF n (bitL (lvM M)) i)) (0, -9) (fcN n)).2 → q M2) : zc_K g yX11_countOrders mX11_countOrders [zv_r 46] M (zq_V q) := by
  refine zc_of (ls := [some (zv_r 46), none, none, none, none, none]) (by decide) rfl ⟨rfl, rfl⟩ (Nat.le_of_ble_eq_true rfl) rfl ?_
  refine zr_aload_n (pc := 0) dX11_countOrders_0 rfl rfl ?_
  refine zr_inv0I (pc := 1) rfl sX11_207 lo_46 rfl rfl rfl dX11_countOrders_1 ?_
  refine ct_X11_allLayers hw ?_
  refine zr_istore_n (pc := 4) dX11_countOrders_4 rfl (Nat.le_of_ble_eq_true rfl) rfl ?_
  refine zr_iload_n (pc := 5) dX11_countOrders_5 rfl rfl ?_
  refine zr_stat1I (pc := 6) rfl sX11_173 rfl rfl dX11_countOrders_6 ?_
  have hbl := bitL_in hw
  refine ct_X11_ones (by omega) ?_
  rw [hn]
  refine zr_istore_n (pc := 9) dX11_countOrders_9 rfl (Nat.le_of_ble_eq_true rfl) rfl ?_
  refine zr_aload_n (pc := 10) dX11_countOrders_10 rfl rfl ?_
  refine zr_iconst (pc := 11) dX11_countOrders_11 ?_
  refine zr_putI (pc := 12) (z := 23) fX11_212 lo_46 rfl fwX11_23 rfl rfl dX11_countOrders_12 ?_
  refine zr_aload_n (pc := 15) dX11_countOrders_15 rfl rfl ?_
  refine zr_bipush (pc := 16) dX11_countOrders_16 (by decide) ?_
  refine zr_putI (pc := 18) (z := 24) fX11_215 lo_46 rfl fwX11_24 rfl rfl dX11_countOrders_18 ?_
  refine zr_iconst (pc := 21) dX11_countOrders_21 ?_
  refine zr_istore_n (pc := 22) dX11_countOrders_22 rfl (Nat.le_of_ble_eq_true rfl) rfl ?_
  refine zr_iconst (pc := 23) dX11_countOrders_23 ?_
  refine zr_istore (pc := 24) dX11_countOrders_24 (Nat.le_of_ble_eq_true rfl) rfl ?_
  exact lp_X11_countM (g := g) hw hn h (Mx := zm_put (zm_put M 46 23 0) 46 24 (-9)) (fun k i a b => by rw [show zm_put _ 46 24 _ k i = _ from if_neg (by omega), show zm_put _ 46 23 _ k i = _ from if_neg (by omega)]) (by rw [put_ni _ _ (by decide), put_at]) (put_at _ _ _ _) _ 2 _ rfl (by decide) (Or.inr rfl)

set_option maxRecDepth 100000 in
set_option maxHeartbeats 4000000 in
theorem ct_X11_beneath {g : zt_G} {M : zm_M} {σ : Sg} {q : Int → zm_M → Prop} (hR : RM σ M) (hW : SW σ) {v : Int} (hv : zi v) (h : ∀ M2, frM M M2 → RM σ M2 → q (aBen v (sL σ)) M2) : zc_K g yX11_beneath mX11_beneath [zv_r 46, zv_i v] M (zq_I q) := by
  refine zc_of (ls := [some (zv_r 46), some (zv_i v)]) (by decide) rfl ⟨rfl, rfl⟩ (Nat.le_of_ble_eq_true rfl) rfl ?_
  obtain ⟨hT, hl, hcv, hA, hK, hS, hD, hcd⟩ := id hR
  obtain ⟨wT, wTx, wL, ⟨wC, wZ⟩, wA, wK, wS⟩ := id hW
  have hLw : LW (lvM M) := by rw [hl]; exact wL
  have hCw : CW (cvG M 51 (14 * 0)) := by rw [hcv]; exact wC
  have hw0 := wGt hCw
  have hL0 := yMk hLw
  have hk1 : M 46 0 = (sL σ).1 := by rw [← hl]; rfl
  have ht1 : M 46 1 = ct (sC σ) := by rw [← hcv]; rfl
  have hT1 := hT.1
  have hbl := bitL_in wL
  have hoi := on6_i hbl
  refine zr_iload_n (pc := 0) dX11_beneath_0 rfl rfl ?_
  refine zr_i2l (pc := 1) dX11_beneath_1 ?_
  refine zr_lconst (pc := 2) (z := 0) dX11_beneath_2 (by decide +kernel) ?_
  refine zr_lconst (pc := 3) (z := 1) dX11_beneath_3 (by decide +kernel) ?_
  refine zr_stat3I (pc := 4) rfl sX11_61 rfl rfl dX11_beneath_4 ?_
  refine in_i hv (by omega) (by omega) ?_
  refine zr_ifb_ne (pc := 7) (tgt := 13) dX11_beneath_7 (by decide) (fun h7 => ?_) (fun h7 => ?_)
  · refine zr_aload_n (pc := 13) dX11_beneath_13 rfl rfl ?_
    refine zr_inv0V (pc := 14) rfl sX11_225 lo_46 rfl rfl rfl dX11_beneath_14 ?_
    refine ct_X11_countOrders (n := (on6 (bitL (sL σ))).toNat) hLw (by rw [hl]; omega) (fun M2 hf2 h23 h24 => ?_)
    rw [hl] at h23 h24
    have hbe := ben_eq (L := sL σ) wL (n := (on6 (bitL (sL σ))).toNat) (by omega) (v := v) (by omega)
    refine zr_iload_n (pc := 17) dX11_beneath_17 rfl rfl ?_
    refine zi_if_ne (pc := 18) (tgt := 28) dX11_beneath_18 (by decide) (by omega) (fun h18 => ?_) (fun h18 => ?_)
    · refine zr_aload_n (pc := 28) dX11_beneath_28 rfl rfl ?_
      refine zr_getI (pc := 29) (z := 24) fX11_215 lo_46 rfl rfl rfl dX11_beneath_29 ?_
      exact zr_ireturn (pc := 32) dX11_beneath_32 rfl (zq_eq (h M2 (fun k i a => hf2 k i (by omega) (by omega)) (RM_frs hR hW (fun k i a b => hf2 k i (by unfold zsm at b; omega) (by unfold zsm at b; omega)))) (by rw [hbe, if_neg h18, h24]))
    · refine zr_aload_n (pc := 21) dX11_beneath_21 rfl rfl ?_
      refine zr_getI (pc := 22) (z := 23) fX11_212 lo_46 rfl rfl rfl dX11_beneath_22 ?_
      refine zr_goto (pc := 25) (tgt := 32) dX11_beneath_25 (by decide) ?_
      exact zr_ireturn (pc := 32) dX11_beneath_32 rfl (zq_eq (h M2 (fun k i a => hf2 k i (by omega) (by omega)) (RM_frs hR hW (fun k i a b => hf2 k i (by unfold zsm at b; omega) (by unfold zsm at b; omega)))) (by rw [hbe, if_pos h18, h23]))
  · refine zr_bipush (pc := 10) dX11_beneath_10 (by decide) ?_
    exact zr_ireturn (pc := 12) dX11_beneath_12 rfl (zq_eq (h M (fun _ _ _ => rfl) hR) (by unfold aBen; rw [if_pos (by omega)]))

