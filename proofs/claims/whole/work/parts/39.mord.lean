/-! orders of layers: bits -/
def orB (d l : Int) : Int := zb_or d (zb_shl 1 l)
def xaB (a d : Int) : Int := zb_and a (zb_xor d (-1))
theorem orB_in {d l : Int} (hd : 0 ≤ d ∧ d < 64) (hl : 0 ≤ l ∧ l < 6) : 0 ≤ orB d l ∧ orB d l < 64 := or6 hd hl
theorem bt_orB {d l k : Int} (hd : 0 ≤ d ∧ d < 64) (hl : 0 ≤ l ∧ l < 6) (hk : 0 ≤ k) : bt (orB d l) k = (bt d k || decide (k = l)) := by
  unfold orB
  rw [bt_or 6 (by decide) hd (s1_rng 6 (by decide) hl), bt_s1 (by omega) hk]
theorem rmb_ok : ∀ s : Nat, s < 64 → ∀ l : Nat, l < 6 → ∀ k : Nat, k < 6 → bt (rmB (s : Int) (l : Int)) (k : Int) = (bt (s : Int) (k : Int) && !decide (k = l)) := by decide +kernel
theorem bt_rmB {s l k : Int} (hs : 0 ≤ s ∧ s < 64) (hl : 0 ≤ l ∧ l < 6) (hk : 0 ≤ k ∧ k < 6) : bt (rmB s l) k = (bt s k && !decide (k = l)) := by
  obtain ⟨s, rfl⟩ := Int.eq_ofNat_of_zero_le hs.1
  obtain ⟨l, rfl⟩ := Int.eq_ofNat_of_zero_le hl.1
  obtain ⟨k, rfl⟩ := Int.eq_ofNat_of_zero_le hk.1
  rw [rmb_ok s (by omega) l (by omega) k (by omega)]
  congr 2
  by_cases e : k = l
  · rw [decide_eq_true e, decide_eq_true (by omega)]
  · rw [decide_eq_false e, decide_eq_false (by omega)]
theorem xab_ok : ∀ a : Nat, a < 64 → ∀ d : Nat, d < 64 → ∀ k : Nat, k < 6 → bt (xaB (a : Int) (d : Int)) (k : Int) = (bt (a : Int) (k : Int) && !bt (d : Int) (k : Int)) := by decide +kernel
theorem bt_xaB {a d k : Int} (ha : 0 ≤ a ∧ a < 64) (hd : 0 ≤ d ∧ d < 64) (hk : 0 ≤ k ∧ k < 6) : bt (xaB a d) k = (bt a k && !bt d k) := by
  obtain ⟨a, rfl⟩ := Int.eq_ofNat_of_zero_le ha.1
  obtain ⟨d, rfl⟩ := Int.eq_ofNat_of_zero_le hd.1
  obtain ⟨k, rfl⟩ := Int.eq_ofNat_of_zero_le hk.1
  exact xab_ok a (by omega) d (by omega) k (by omega)
theorem xaB_in {a d : Int} (ha : 0 ≤ a ∧ a < 64) (hd : 0 ≤ d ∧ d < 64) : 0 ≤ xaB a d ∧ xaB a d < 64 := xa6 ha hd
theorem ext6 {a b : Int} (ha : 0 ≤ a ∧ a < 64) (hb : 0 ≤ b ∧ b < 64) (h : ∀ k, 0 ≤ k → k < 6 → bt a k = bt b k) : a = b := by
  obtain ⟨a, rfl⟩ := Int.eq_ofNat_of_zero_le ha.1
  obtain ⟨b, rfl⟩ := Int.eq_ofNat_of_zero_le hb.1
  congr 1
  refine Nat.eq_of_testBit_eq (fun i => ?_)
  by_cases hi : i < 6
  · have h1 := h (i : Int) (by omega) (by omega)
    rw [bt_tb, bt_tb] at h1
    simpa using h1
  · rw [Nat.testBit_lt_two_pow (Nat.lt_of_lt_of_le (show a < 2 ^ 6 by omega) (Nat.pow_le_pow_right (by decide) (by omega))), Nat.testBit_lt_two_pow (Nat.lt_of_lt_of_le (show b < 2 ^ 6 by omega) (Nat.pow_le_pow_right (by decide) (by omega)))]
theorem and_cm (a b : Int) : zb_and a b = zb_and b a := by
  unfold zb_and
  rw [Int32.and_comm]
theorem cFo_iff {ab : Int → Int} {l d : Int} (ha : ∀ l, 0 ≤ ab l ∧ ab l < 64) (hd : 0 ≤ d ∧ d < 64) : cFo ab l d ↔ ∀ a, 0 ≤ a → a < 6 → bt (ab l) a = true → bt d a = true := by
  show zb_and (ab l) d = ab l ↔ _
  rw [and_cm]
  exact and_iff hd (ha l)
theorem sub_iff {s a : Int} (hs : 0 ≤ s ∧ s < 64) (ha : 0 ≤ a ∧ a < 64) : zb_and s a = s ↔ ∀ k, 0 ≤ k → k < 6 → bt s k = true → bt a k = true := by
  rw [and_cm]
  exact and_iff ha hs
/-! how many ways go on from a set -/
def okL (all : Int) (ab : Int → Int) (d l : Int) : Bool := bt all l && !bt d l && decide (cFo ab l d)
def Nk (all : Int) (ab : Int → Int) : Nat → Int → Int
  | 0, _ => 1
  | k + 1, d => sm (fun l => if okL all ab d l = true then Nk all ab k (orB d l) else 0) 6
def fsL (f : Int → Option Int) : Nat → Option Int
  | 0 => none
  | n + 1 => match fsL f n with
    | some v => some v
    | none => f (n : Int)
def LSk (all : Int) (ab : Int → Int) : Nat → Int → Int → Int
  | 0, _, u => u
  | k + 1, d, u => ((fsL (fun l => if okL all ab d l = true ∧ 0 < Nk all ab k (orB d l) then some (LSk all ab k (orB d l) (10 * u + l + 1)) else none) 6).getD 0)
theorem Nk_nn (all : Int) (ab : Int → Int) : ∀ (k : Nat) (d : Int), 0 ≤ Nk all ab k d
  | 0, d => by show (0 : Int) ≤ 1; decide
  | k + 1, d => sm_nn (fun l _ _ => by
    show 0 ≤ (if okL all ab d l = true then Nk all ab k (orB d l) else 0)
    split
    · exact Nk_nn all ab k _
    · exact Int.le_refl 0)
theorem sm_pos {f : Int → Int} : ∀ {n : Nat}, (∀ i, 0 ≤ i → i < (n : Int) → 0 ≤ f i) → (0 < sm f n ↔ ∃ i, 0 ≤ i ∧ i < (n : Int) ∧ 0 < f i)
  | 0, _ => ⟨fun h => absurd h (by show ¬ (0 : Int) < 0; decide), fun ⟨i, a, b, _⟩ => by omega⟩
  | n + 1, h => by
    have ih := sm_pos (f := f) (n := n) (fun i a b => h i a (by omega))
    have h1 := sm_nn (f := f) (n := n) (fun i a b => h i a (by omega))
    have h2 := h (n : Int) (by omega) (by omega)
    rw [sm_s]
    constructor
    · intro h3
      by_cases h4 : 0 < sm f n
      · obtain ⟨i, a, b, c⟩ := ih.mp h4
        exact ⟨i, a, by omega, c⟩
      · exact ⟨(n : Int), by omega, by omega, by omega⟩
    · rintro ⟨i, a, b, c⟩
      by_cases h4 : i < (n : Int)
      · have := ih.mpr ⟨i, a, h4, c⟩
        omega
      · rw [show i = (n : Int) by omega] at c
        omega
theorem Nk_pos (all : Int) (ab : Int → Int) (k : Nat) (d : Int) : 0 < Nk all ab (k + 1) d ↔ ∃ l, 0 ≤ l ∧ l < 6 ∧ okL all ab d l = true ∧ 0 < Nk all ab k (orB d l) := by
  show 0 < sm _ 6 ↔ _
  rw [sm_pos (fun l _ _ => by
    show 0 ≤ (if okL all ab d l = true then Nk all ab k (orB d l) else 0)
    split
    · exact Nk_nn all ab k _
    · exact Int.le_refl 0)]
  constructor
  · rintro ⟨l, a, b, c⟩
    by_cases h : okL all ab d l = true
    · rw [if_pos h] at c
      exact ⟨l, a, b, h, c⟩
    · rw [if_neg h] at c
      omega
  · rintro ⟨l, a, b, c, e⟩
    exact ⟨l, a, b, by rw [if_pos c]; exact e⟩
theorem okL_iff {all : Int} {ab : Int → Int} {d l : Int} : okL all ab d l = true ↔ bt all l = true ∧ ¬ bt d l = true ∧ cFo ab l d := by
  unfold okL
  rw [Bool.and_eq_true, Bool.and_eq_true, decide_eq_true_eq]
  cases bt d l <;> simp
theorem Nk_mono {all : Int} {ab : Int → Int} (ha : ∀ l, 0 ≤ ab l ∧ ab l < 64) : ∀ (k : Nat) (d x : Int), 0 ≤ d ∧ d < 64 → 0 < Nk all ab (k + 1) d → 0 ≤ x ∧ x < 6 → bt all x = true → ¬ bt d x = true → 0 < Nk all ab k (orB d x)
  | 0, d, x, _, _, _, _, _ => by show (0 : Int) < 1; decide
  | k + 1, d, x, hd, h, hx, h1, h2 => by
    obtain ⟨l, l0, l1, hok, hp⟩ := (Nk_pos all ab (k + 1) d).mp h
    by_cases e : l = x
    · rw [← e]
      exact hp
    · have hol := okL_iff.mp hok
      have hdl := orB_in hd ⟨l0, l1⟩
      have hdx := orB_in hd hx
      have h3 : ¬ bt (orB d l) x = true := by
        rw [bt_orB hd ⟨l0, l1⟩ hx.1, Bool.or_eq_true, decide_eq_true_eq]
        rintro (y | y)
        · exact h2 y
        · exact e y.symm
      have h4 := Nk_mono ha k (orB d l) x hdl hp hx h1 h3
      have h5 : orB (orB d l) x = orB (orB d x) l := ext6 (orB_in hdl hx) (orB_in hdx ⟨l0, l1⟩) (fun j j0 j1 => by
        rw [bt_orB hdl hx j0, bt_orB hd ⟨l0, l1⟩ j0, bt_orB hdx ⟨l0, l1⟩ j0, bt_orB hd hx j0, Bool.or_assoc, Bool.or_assoc, Bool.or_comm (decide (j = l))])
      rw [h5] at h4
      refine (Nk_pos all ab k (orB d x)).mpr ⟨l, l0, l1, okL_iff.mpr ⟨hol.1, ?_, ?_⟩, h4⟩
      · rw [bt_orB hd hx l0, Bool.or_eq_true, decide_eq_true_eq]
        rintro (y | y)
        · exact hol.2.1 y
        · exact e y
      · rw [cFo_iff ha hdx]
        intro j j0 j1 j2
        rw [bt_orB hd hx j0, ((cFo_iff ha hd).mp hol.2.2) j j0 j1 j2]
        rfl
theorem onr_ok : ∀ d : Nat, d < 64 → ∀ l : Nat, l < 6 → bt (d : Int) (l : Int) = false → on6 (orB (d : Int) (l : Int)) = on6 (d : Int) + 1 := by decide +kernel
theorem on_or {d l : Int} (hd : 0 ≤ d ∧ d < 64) (hl : 0 ≤ l ∧ l < 6) (h : ¬ bt d l = true) : on6 (orB d l) = on6 d + 1 := by
  obtain ⟨d, rfl⟩ := Int.eq_ofNat_of_zero_le hd.1
  obtain ⟨l, rfl⟩ := Int.eq_ofNat_of_zero_le hl.1
  exact onr_ok d (by omega) l (by omega) (Bool.eq_false_iff.mpr h)
theorem on_eq {d a : Int} (hd : 0 ≤ d ∧ d < 64) (ha : 0 ≤ a ∧ a < 64) (hs : ∀ j, 0 ≤ j → j < 6 → bt d j = true → bt a j = true) (h : on6 d = on6 a) : d = a := by
  have h1 := on_diff (a := d) (b := a) hs
  refine ext6 hd ha (fun k k0 k1 => ?_)
  by_cases hk : bt a k = true
  · by_cases hk2 : bt d k = true
    · rw [hk, hk2]
    · have h2 : 0 < sm (fun l => if bt a l = true ∧ ¬ bt d l = true then (1 : Int) else 0) 6 := (sm_pos (fun i _ _ => by
        show 0 ≤ (if _ then (1 : Int) else 0)
        split <;> decide)).mpr ⟨k, k0, k1, by rw [if_pos ⟨hk, hk2⟩]; decide⟩
      omega
  · by_cases hk2 : bt d k = true
    · exact absurd (hs k k0 k1 hk2) hk
    · rw [Bool.eq_false_iff.mpr hk, Bool.eq_false_iff.mpr hk2]
/-! the least, step by step -/
theorem fs_ls {all d u : Int} {ab : Int → Int} (f : Int → Int → Int) (h6 : 0 ≤ all ∧ all < 64) (hd : 0 ≤ d ∧ d < 64) : ∀ (m n : Nat), n + m = 6 → fsL (fun l => if okL all ab d l = true then some (f l u) else none) n = none → (∃ l, (n : Int) ≤ l ∧ l < 6 ∧ okL all ab d l = true) → fsL (fun l => if okL all ab d l = true then some (f l u) else none) 6 = some (f (lsA all ab d m (n : Int)) u) ∧ okL all ab d (lsA all ab d m (n : Int)) = true
  | 0, n, hm, _, ⟨l, a, b, _⟩ => by omega
  | m + 1, n, hm, h, ⟨l, a, b, c⟩ => by
    have hbit : (¬ zb_and (zb_and all (zb_xor d (-1))) (zb_shl 1 (n : Int)) = 0 ∧ cFo ab (n : Int) d) ↔ okL all ab d (n : Int) = true := by
      have h1 := and6 (xaB_in h6 hd) (l := (n : Int)) ⟨by omega, by omega⟩
      have h2 := bt_xaB h6 hd (k := (n : Int)) ⟨by omega, by omega⟩
      rw [okL_iff, show zb_and all (zb_xor d (-1)) = xaB all d from rfl, h1.1, h2]
      cases bt all (n : Int) <;> cases bt d (n : Int) <;> simp
    unfold lsA
    by_cases hok : okL all ab d (n : Int) = true
    · rw [if_pos (hbit.mpr hok)]
      refine ⟨?_, hok⟩
      have h3 : fsL (fun l => if okL all ab d l = true then some (f l u) else none) (n + 1) = some (f (n : Int) u) := by
        unfold fsL
        rw [h]
        dsimp only
        rw [if_pos hok]
      have h4 : ∀ j : Nat, fsL (fun l => if okL all ab d l = true then some (f l u) else none) (n + 1 + j) = some (f (n : Int) u) := by
        intro j
        induction j with
        | zero => exact h3
        | succ j ih =>
          show (match fsL _ (n + 1 + j) with | some v => some v | none => _) = _
          rw [ih]
      have h5 := h4 m
      rw [show n + 1 + m = 6 by omega] at h5
      exact h5
    · rw [if_neg (fun y => hok (hbit.mp y))]
      refine fs_ls f h6 hd m (n + 1) (by omega) ?_ ⟨l, ?_, b, c⟩
      · unfold fsL
        rw [h]
        dsimp only
        rw [if_neg hok]
      · have : l ≠ (n : Int) := fun e => hok (by rw [← e]; exact c)
        omega
theorem LS_ls {all : Int} {ab : Int → Int} (h6 : 0 ≤ all ∧ all < 64) (ha : ∀ l, 0 ≤ ab l ∧ ab l < 64) : ∀ (k m : Nat) (d u : Int), 0 ≤ d ∧ d < 64 → on6 d + k = on6 all → (∀ j, 0 ≤ j → j < 6 → bt d j = true → bt all j = true) → 0 < Nk all ab k d → k ≤ m → lsL all ab m u d = LSk all ab k d u
  | 0, m, d, u, hd, hc, hs, _, _ => by
    have e : d = all := on_eq hd h6 hs (by omega)
    cases m with
    | zero => rfl
    | succ m => rw [lsL_s, if_pos e]; rfl
  | k + 1, m, d, u, hd, hc, hs, hp, hm => by
    obtain ⟨m, rfl⟩ : ∃ j, m = j + 1 := ⟨m - 1, by omega⟩
    have e : ¬ d = all := fun e => by rw [e] at hc; omega
    rw [lsL_s, if_neg e]
    obtain ⟨x, x0, x1, hox, hpx⟩ := (Nk_pos all ab k d).mp hp
    have hf : (fun l : Int => if okL all ab d l = true ∧ 0 < Nk all ab k (orB d l) then some (LSk all ab k (orB d l) (10 * u + l + 1)) else none) = (fun l : Int => if okL all ab d l = true then some ((fun l u => LSk all ab k (orB d l) (10 * u + l + 1)) l u) else none) ∨ True := Or.inr trivial
    have key := fs_ls (all := all) (d := d) (u := u) (ab := ab) (fun l u => LSk all ab k (orB d l) (10 * u + l + 1)) h6 hd 6 0 rfl rfl ⟨x, by omega, x1, hox⟩
    have hl := lsA_in (all := all) (ab := ab) (d := d) 6 0 (by decide) (by decide)
    have hol := okL_iff.mp key.2
    have hfe : ∀ n : Nat, n ≤ 6 → fsL (fun l : Int => if okL all ab d l = true ∧ 0 < Nk all ab k (orB d l) then some (LSk all ab k (orB d l) (10 * u + l + 1)) else none) n = fsL (fun l : Int => if okL all ab d l = true then some (LSk all ab k (orB d l) (10 * u + l + 1)) else none) n := by
      intro n
      induction n with
      | zero => exact fun _ => rfl
      | succ n ih =>
        intro hn
        unfold fsL
        rw [ih (by omega)]
        by_cases hok : okL all ab d (n : Int) = true
        · have := okL_iff.mp hok
          rw [if_pos ⟨hok, Nk_mono ha k d (n : Int) hd hp ⟨by omega, by omega⟩ this.1 this.2.1⟩, if_pos hok]
        · rw [if_neg (fun y => hok y.1), if_neg hok]
    have e2 : LSk all ab (k + 1) d u = LSk all ab k (orB d (lsA all ab d 6 0)) (10 * u + lsA all ab d 6 0 + 1) := by
      show (fsL _ 6).getD 0 = _
      rw [hfe 6 (by decide), key.1]
      rfl
    rw [e2]
    have hdl := orB_in hd hl
    refine LS_ls h6 ha k m (orB d (lsA all ab d 6 0)) _ hdl ?_ ?_ (Nk_mono ha k d _ hd hp hl hol.1 hol.2.1) (by omega)
    · have := on_or hd hl hol.2.1
      omega
    · intro j j0 j1 j2
      rw [bt_orB hd hl j0, Bool.or_eq_true, decide_eq_true_eq] at j2
      rcases j2 with j2 | j2
      · exact hs j j0 j1 j2
      · rw [j2]
        exact hol.1
