abbrev zi (a : Int) : Prop := -2147483648 ≤ a ∧ a < 2147483648
theorem zi_if_eq {g : zt_G} {μ : zt_M} {pc : Nat} {ls : List (Option zv_A)} {st : List zv_A} {M : zm_M} {Q : Option zv_A → zm_M → Prop} {a off : Int} {tgt : Nat} (hd : decode μ.2.1 pc = .ok (.ifCond .eq off, 3)) (ht : (pc : Int) + off = (tgt : Int)) (ha : zi a) (kt : a = 0 → zc_Z g μ (tgt) ls (st) M Q) (kf : ¬ a = 0 → zc_Z g μ (pc + 3) ls (st) M Q) : zc_Z g μ (pc) ls (zv_i a :: st) M Q := by
  have e1 := zw_id ha.1 ha.2
  exact zr_if_eq hd ht (fun h => kt (by rw [e1] at h; exact h)) (fun h => kf (by rw [e1] at h; exact h))
theorem zi_icmp_eq {g : zt_G} {μ : zt_M} {pc : Nat} {ls : List (Option zv_A)} {st : List zv_A} {M : zm_M} {Q : Option zv_A → zm_M → Prop} {a b off : Int} {tgt : Nat} (hd : decode μ.2.1 pc = .ok (.if_icmp .eq off, 3)) (ht : (pc : Int) + off = (tgt : Int)) (ha : zi a) (hb : zi b) (kt : a = b → zc_Z g μ (tgt) ls (st) M Q) (kf : ¬ a = b → zc_Z g μ (pc + 3) ls (st) M Q) : zc_Z g μ (pc) ls (zv_i b :: zv_i a :: st) M Q := by
  have e1 := zw_id ha.1 ha.2
  have e2 := zw_id hb.1 hb.2
  exact zr_icmp_eq hd ht (fun h => kt (by rw [e1, e2] at h; exact h)) (fun h => kf (by rw [e1, e2] at h; exact h))
theorem zi_if_ne {g : zt_G} {μ : zt_M} {pc : Nat} {ls : List (Option zv_A)} {st : List zv_A} {M : zm_M} {Q : Option zv_A → zm_M → Prop} {a off : Int} {tgt : Nat} (hd : decode μ.2.1 pc = .ok (.ifCond .ne off, 3)) (ht : (pc : Int) + off = (tgt : Int)) (ha : zi a) (kt : ¬ a = 0 → zc_Z g μ (tgt) ls (st) M Q) (kf : a = 0 → zc_Z g μ (pc + 3) ls (st) M Q) : zc_Z g μ (pc) ls (zv_i a :: st) M Q := by
  have e1 := zw_id ha.1 ha.2
  exact zr_if_ne hd ht (fun h => kt (by rw [e1] at h; exact h)) (fun h => kf (by rw [e1] at h; exact h))
theorem zi_icmp_ne {g : zt_G} {μ : zt_M} {pc : Nat} {ls : List (Option zv_A)} {st : List zv_A} {M : zm_M} {Q : Option zv_A → zm_M → Prop} {a b off : Int} {tgt : Nat} (hd : decode μ.2.1 pc = .ok (.if_icmp .ne off, 3)) (ht : (pc : Int) + off = (tgt : Int)) (ha : zi a) (hb : zi b) (kt : ¬ a = b → zc_Z g μ (tgt) ls (st) M Q) (kf : a = b → zc_Z g μ (pc + 3) ls (st) M Q) : zc_Z g μ (pc) ls (zv_i b :: zv_i a :: st) M Q := by
  have e1 := zw_id ha.1 ha.2
  have e2 := zw_id hb.1 hb.2
  exact zr_icmp_ne hd ht (fun h => kt (by rw [e1, e2] at h; exact h)) (fun h => kf (by rw [e1, e2] at h; exact h))
theorem zi_if_lt {g : zt_G} {μ : zt_M} {pc : Nat} {ls : List (Option zv_A)} {st : List zv_A} {M : zm_M} {Q : Option zv_A → zm_M → Prop} {a off : Int} {tgt : Nat} (hd : decode μ.2.1 pc = .ok (.ifCond .lt off, 3)) (ht : (pc : Int) + off = (tgt : Int)) (ha : zi a) (kt : a < 0 → zc_Z g μ (tgt) ls (st) M Q) (kf : 0 ≤ a → zc_Z g μ (pc + 3) ls (st) M Q) : zc_Z g μ (pc) ls (zv_i a :: st) M Q := by
  have e1 := zw_id ha.1 ha.2
  exact zr_if_lt hd ht (fun h => kt (by rw [e1] at h; exact h)) (fun h => kf (by rw [e1] at h; exact h))
theorem zi_icmp_lt {g : zt_G} {μ : zt_M} {pc : Nat} {ls : List (Option zv_A)} {st : List zv_A} {M : zm_M} {Q : Option zv_A → zm_M → Prop} {a b off : Int} {tgt : Nat} (hd : decode μ.2.1 pc = .ok (.if_icmp .lt off, 3)) (ht : (pc : Int) + off = (tgt : Int)) (ha : zi a) (hb : zi b) (kt : a < b → zc_Z g μ (tgt) ls (st) M Q) (kf : b ≤ a → zc_Z g μ (pc + 3) ls (st) M Q) : zc_Z g μ (pc) ls (zv_i b :: zv_i a :: st) M Q := by
  have e1 := zw_id ha.1 ha.2
  have e2 := zw_id hb.1 hb.2
  exact zr_icmp_lt hd ht (fun h => kt (by rw [e1, e2] at h; exact h)) (fun h => kf (by rw [e1, e2] at h; exact h))
theorem zi_if_ge {g : zt_G} {μ : zt_M} {pc : Nat} {ls : List (Option zv_A)} {st : List zv_A} {M : zm_M} {Q : Option zv_A → zm_M → Prop} {a off : Int} {tgt : Nat} (hd : decode μ.2.1 pc = .ok (.ifCond .ge off, 3)) (ht : (pc : Int) + off = (tgt : Int)) (ha : zi a) (kt : 0 ≤ a → zc_Z g μ (tgt) ls (st) M Q) (kf : a < 0 → zc_Z g μ (pc + 3) ls (st) M Q) : zc_Z g μ (pc) ls (zv_i a :: st) M Q := by
  have e1 := zw_id ha.1 ha.2
  exact zr_if_ge hd ht (fun h => kt (by rw [e1] at h; exact h)) (fun h => kf (by rw [e1] at h; exact h))
theorem zi_icmp_ge {g : zt_G} {μ : zt_M} {pc : Nat} {ls : List (Option zv_A)} {st : List zv_A} {M : zm_M} {Q : Option zv_A → zm_M → Prop} {a b off : Int} {tgt : Nat} (hd : decode μ.2.1 pc = .ok (.if_icmp .ge off, 3)) (ht : (pc : Int) + off = (tgt : Int)) (ha : zi a) (hb : zi b) (kt : b ≤ a → zc_Z g μ (tgt) ls (st) M Q) (kf : a < b → zc_Z g μ (pc + 3) ls (st) M Q) : zc_Z g μ (pc) ls (zv_i b :: zv_i a :: st) M Q := by
  have e1 := zw_id ha.1 ha.2
  have e2 := zw_id hb.1 hb.2
  exact zr_icmp_ge hd ht (fun h => kt (by rw [e1, e2] at h; exact h)) (fun h => kf (by rw [e1, e2] at h; exact h))
theorem zi_if_gt {g : zt_G} {μ : zt_M} {pc : Nat} {ls : List (Option zv_A)} {st : List zv_A} {M : zm_M} {Q : Option zv_A → zm_M → Prop} {a off : Int} {tgt : Nat} (hd : decode μ.2.1 pc = .ok (.ifCond .gt off, 3)) (ht : (pc : Int) + off = (tgt : Int)) (ha : zi a) (kt : 0 < a → zc_Z g μ (tgt) ls (st) M Q) (kf : a ≤ 0 → zc_Z g μ (pc + 3) ls (st) M Q) : zc_Z g μ (pc) ls (zv_i a :: st) M Q := by
  have e1 := zw_id ha.1 ha.2
  exact zr_if_gt hd ht (fun h => kt (by rw [e1] at h; exact h)) (fun h => kf (by rw [e1] at h; exact h))
theorem zi_icmp_gt {g : zt_G} {μ : zt_M} {pc : Nat} {ls : List (Option zv_A)} {st : List zv_A} {M : zm_M} {Q : Option zv_A → zm_M → Prop} {a b off : Int} {tgt : Nat} (hd : decode μ.2.1 pc = .ok (.if_icmp .gt off, 3)) (ht : (pc : Int) + off = (tgt : Int)) (ha : zi a) (hb : zi b) (kt : b < a → zc_Z g μ (tgt) ls (st) M Q) (kf : a ≤ b → zc_Z g μ (pc + 3) ls (st) M Q) : zc_Z g μ (pc) ls (zv_i b :: zv_i a :: st) M Q := by
  have e1 := zw_id ha.1 ha.2
  have e2 := zw_id hb.1 hb.2
  exact zr_icmp_gt hd ht (fun h => kt (by rw [e1, e2] at h; exact h)) (fun h => kf (by rw [e1, e2] at h; exact h))
theorem zi_if_le {g : zt_G} {μ : zt_M} {pc : Nat} {ls : List (Option zv_A)} {st : List zv_A} {M : zm_M} {Q : Option zv_A → zm_M → Prop} {a off : Int} {tgt : Nat} (hd : decode μ.2.1 pc = .ok (.ifCond .le off, 3)) (ht : (pc : Int) + off = (tgt : Int)) (ha : zi a) (kt : a ≤ 0 → zc_Z g μ (tgt) ls (st) M Q) (kf : 0 < a → zc_Z g μ (pc + 3) ls (st) M Q) : zc_Z g μ (pc) ls (zv_i a :: st) M Q := by
  have e1 := zw_id ha.1 ha.2
  exact zr_if_le hd ht (fun h => kt (by rw [e1] at h; exact h)) (fun h => kf (by rw [e1] at h; exact h))
theorem zi_icmp_le {g : zt_G} {μ : zt_M} {pc : Nat} {ls : List (Option zv_A)} {st : List zv_A} {M : zm_M} {Q : Option zv_A → zm_M → Prop} {a b off : Int} {tgt : Nat} (hd : decode μ.2.1 pc = .ok (.if_icmp .le off, 3)) (ht : (pc : Int) + off = (tgt : Int)) (ha : zi a) (hb : zi b) (kt : a ≤ b → zc_Z g μ (tgt) ls (st) M Q) (kf : b < a → zc_Z g μ (pc + 3) ls (st) M Q) : zc_Z g μ (pc) ls (zv_i b :: zv_i a :: st) M Q := by
  have e1 := zw_id ha.1 ha.2
  have e2 := zw_id hb.1 hb.2
  exact zr_icmp_le hd ht (fun h => kt (by rw [e1, e2] at h; exact h)) (fun h => kf (by rw [e1, e2] at h; exact h))
theorem zq_eq {q : Int → zm_M → Prop} {a b : Int} {M : zm_M} (h : q a M) (e : b = a) : zq_I q (some (zv_i b)) M := by
  subst e
  exact h
theorem zq_e2 {q : Int → zm_M → Prop} {a b : Int} {M M2 : zm_M} (h : q a M) (e : b = a) (e2 : M2 = M) : zq_I q (some (zv_i b)) M2 := by
  subst e
  subst e2
  exact h
theorem zb_T {P : Prop} [Decidable P] (h : P) : 1 = zb_B P := (if_pos h).symm
theorem zb_F {P : Prop} [Decidable P] (h : ¬ P) : 0 = zb_B P := (if_neg h).symm
theorem zb_01 {P : Prop} [Decidable P] : zb_B P = 0 ∨ zb_B P = 1 := by
  unfold zb_B
  split <;> simp
theorem zb_iff {P P2 : Prop} [Decidable P] [Decidable P2] (h : P ↔ P2) : zb_B P = zb_B P2 := by
  unfold zb_B
  simp only [h]
/-- a fold over the first numbers -/
def fo {α : Type} (f : Int → α → α) (a : α) : Nat → α
  | 0 => a
  | n + 1 => f (n : Int) (fo f a n)
theorem fo_s {α : Type} {f : Int → α → α} {a : α} {i : Int} (h : 0 ≤ i) : fo f a (i + 1).toNat = f i (fo f a i.toNat) := by
  rw [show (i + 1).toNat = i.toNat + 1 by omega]
  show f (i.toNat : Int) _ = _
  rw [Int.toNat_of_nonneg h]
theorem fo_c {α : Type} {f f2 : Int → α → α} {a : α} : ∀ {n : Nat}, (∀ (i : Int) (b : α), 0 ≤ i → i < (n : Int) → f i b = f2 i b) → fo f a n = fo f2 a n
  | 0, _ => rfl
  | n + 1, h => by
    show f (n : Int) _ = f2 (n : Int) _
    rw [fo_c (n := n) (fun i b h0 h1 => h i b h0 (by omega)), h (n : Int) _ (by omega) (by omega)]
theorem fo_p {α : Type} {f : Int → α → α} {a : α} {P : α → Prop} (h0 : P a) : ∀ {n : Nat}, (∀ (i : Int) (b : α), 0 ≤ i → i < (n : Int) → P b → P (f i b)) → P (fo f a n)
  | 0, _ => h0
  | n + 1, h => h (n : Int) _ (by omega) (by omega) (fo_p h0 (n := n) (fun i b g0 g1 => h i b g0 (by omega)))
/-- bits of small numbers -/
theorem zb_and_n (a b : Nat) (ha : a < 2147483648) (hb : b < 2147483648) : zb_and (a : Int) (b : Int) = ((a &&& b : Nat) : Int) := by
  unfold zb_and
  rw [Int32.ofInt_eq_ofNat, Int32.ofInt_eq_ofNat]
  have h1 : Int32.ofNat a &&& Int32.ofNat b = Int32.ofNat (a &&& b) := by
    apply Int32.toBitVec.inj
    simp
  have h2 := Nat.and_le_left (n := a) (m := b)
  have h3 : (0 : Int) ≤ ((a &&& b : Nat) : Int) := Int.natCast_nonneg _
  have h4 : ((a &&& b : Nat) : Int) < 2147483648 := Int.ofNat_lt.mpr (Nat.lt_of_le_of_lt h2 ha)
  rw [h1, ← Int32.ofInt_eq_ofNat, zw_eq, zw_id]
  · exact Int.le_trans (by decide) h3
  · exact h4
theorem zb_or_n (a b k : Nat) (hk : k ≤ 31) (ha : a < 2 ^ k) (hb : b < 2 ^ k) : zb_or (a : Int) (b : Int) = ((a ||| b : Nat) : Int) := by
  unfold zb_or
  rw [Int32.ofInt_eq_ofNat, Int32.ofInt_eq_ofNat]
  have h1 : Int32.ofNat a ||| Int32.ofNat b = Int32.ofNat (a ||| b) := by
    apply Int32.toBitVec.inj
    simp
  have h2 := Nat.or_lt_two_pow ha hb
  have h3 : 2 ^ k ≤ 2 ^ 31 := Nat.pow_le_pow_right (by decide) hk
  have h4 : (0 : Int) ≤ ((a ||| b : Nat) : Int) := Int.natCast_nonneg _
  have h5 : ((a ||| b : Nat) : Int) < 2147483648 := Int.ofNat_lt.mpr (Nat.lt_of_lt_of_le h2 h3)
  rw [h1, ← Int32.ofInt_eq_ofNat, zw_eq, zw_id]
  · exact Int.le_trans (by decide) h4
  · exact h5
def zp_camp (c : Nat) : Prop := zl_lay[c]? = some (.inl (1, [.inr (c + 1), .inr (c + 2), .inr (c + 3), .inr (c + 4), .inl 0, .inl 0, .inl 0])) ∧ zl_lay[c + 1]? = some (.inr (0, 4)) ∧ zl_lay[c + 2]? = some (.inr (0, 4)) ∧ zl_lay[c + 3]? = some (.inr (0, 4)) ∧ zl_lay[c + 4]? = some (.inr (0, 4))
theorem zp_c8 : zp_camp 8 := ⟨rfl, rfl, rfl, rfl, rfl⟩
theorem zp_c17 : zp_camp 17 := ⟨rfl, rfl, rfl, rfl, rfl⟩
theorem zp_c22 : zp_camp 22 := ⟨rfl, rfl, rfl, rfl, rfl⟩
def zp_land (c : Nat) : Prop := zl_lay[c]? = some (.inl (3, [.inr (c + 1), .inr (c + 2), .inr (c + 3), .inl 0])) ∧ zl_lay[c + 1]? = some (.inr (0, 4)) ∧ zl_lay[c + 2]? = some (.inr (0, 4)) ∧ zl_lay[c + 3]? = some (.inr (0, 16))
theorem zp_l4 : zp_land 4 := ⟨rfl, rfl, rfl, rfl⟩
theorem zp_l13 : zp_land 13 := ⟨rfl, rfl, rfl, rfl⟩

