/-! THE NUMBERS: camps, lands, nights -/
def bt (w t : Int) : Bool := decide ((w.toNat / 2 ^ t.toNat) % 2 = 1)
def msk (n : Int) (f : Int → Int) : Int → Int := fun t => if 0 ≤ t ∧ t < n then f t else 0
theorem msk_in {n : Int} {f : Int → Int} {t : Int} (h0 : 0 ≤ t) (h1 : t < n) : msk n f t = f t := if_pos ⟨h0, h1⟩
def upI (f : Int → Int) (t v : Int) : Int → Int := fun i => if i = t then v else f i
theorem upI_s (f : Int → Int) (t v : Int) : upI f t v t = v := if_pos rfl
theorem upI_n {f : Int → Int} {t v i : Int} (h : i ≠ t) : upI f t v i = f i := if_neg h
theorem msk_up {n : Int} {f : Int → Int} {t v : Int} (h0 : 0 ≤ t) (h1 : t < n) : msk n (upI f t v) = upI (msk n f) t v := by
  funext i
  unfold msk upI
  by_cases hi : i = t
  · subst hi
    simp [h0, h1]
  · simp [hi]
/-- a camp: places, kinds, what they know, how white, who walked (bits), how many, the night -/
abbrev Cm : Type := (Int → Int) × (Int → Int) × (Int → Int) × (Int → Int) × Int × Int × Int
abbrev cp (C : Cm) : Int → Int := C.1
abbrev ck (C : Cm) : Int → Int := C.2.1
abbrev cn (C : Cm) : Int → Int := C.2.2.1
abbrev ch (C : Cm) : Int → Int := C.2.2.2.1
abbrev cw (C : Cm) : Int := C.2.2.2.2.1
abbrev ct (C : Cm) : Int := C.2.2.2.2.2.1
abbrev cg (C : Cm) : Int := C.2.2.2.2.2.2
/-- a land: how many kilns, their places, depths, layers -/
abbrev Ln : Type := Int × (Int → Int) × (Int → Int) × (Int → Int → Int)
def CW (C : Cm) : Prop := (0 ≤ ct C ∧ ct C ≤ 4) ∧ (0 ≤ cw C ∧ cw C < 2 ^ (ct C).toNat) ∧ ∀ t, (0 ≤ cp C t ∧ cp C t ≤ 9) ∧ (0 ≤ ck C t ∧ ck C t ≤ 3) ∧ (0 ≤ cn C t ∧ cn C t < 64) ∧ (0 ≤ ch C t ∧ ch C t ≤ 9)
def LW (L : Ln) : Prop := (0 ≤ L.1 ∧ L.1 ≤ 4) ∧ (∀ g, (0 ≤ L.2.1 g ∧ L.2.1 g ≤ 9) ∧ (0 ≤ L.2.2.1 g ∧ L.2.2.1 g ≤ 4)) ∧ ∀ g k, 0 ≤ L.2.2.2 g k ∧ L.2.2.2 g k ≤ 5
theorem CW.w16 {C : Cm} (h : CW C) : cw C < 16 := by
  obtain ⟨⟨h1, h2⟩, ⟨h3, h4⟩, h5⟩ := h
  have : 2 ^ (ct C).toNat ≤ 2 ^ 4 := Nat.pow_le_pow_right (by decide) (by omega)
  have h6 : (2 : Int) ^ (ct C).toNat = ((2 ^ (ct C).toNat : Nat) : Int) := by simp
  rw [h6] at h4
  omega
/-- the class's camp at cell c; its land -/
def cvX (M : zm_M) (c : Nat) : Cm := (msk (M c 5) (M (c + 1)), msk (M c 5) (M (c + 2)), msk (M c 5) (M (c + 3)), msk (M c 5) (M (c + 4)), M c 4, M c 5, M c 6)
def lyX (M : zm_M) (l : Nat) : Int → Int → Int := fun g k => if (0 ≤ g ∧ g < M l 3) ∧ 0 ≤ k ∧ k < M (l + 2) g then M (l + 3) (g * 4 + k) else 0
def lvX (M : zm_M) (l : Nat) : Ln := (M l 3, msk (M l 3) (M (l + 1)), msk (M l 3) (M (l + 2)), lyX M l)
def frC (c : Nat) (M M2 : zm_M) : Prop := ∀ (k : Nat) (i : Int), (k < c ∨ c + 4 < k) → M2 k i = M k i
def frL (c : Nat) (M M2 : zm_M) : Prop := ∀ (k : Nat) (i : Int), (k < c ∨ c + 3 < k) → M2 k i = M k i
theorem frC.rf {c : Nat} {M : zm_M} : frC c M M := fun _ _ _ => rfl
theorem frC.put {c : Nat} {M M2 : zm_M} (h : frC c M M2) (k : Nat) (i v : Int) (hk : c ≤ k ∧ k ≤ c + 4) : frC c M (zm_put M2 k i v) := by
  intro k2 i2 h2
  unfold zm_put
  rw [if_neg (fun x => by omega)]
  exact h k2 i2 h2
theorem frC.tr {c : Nat} {M M2 M3 : zm_M} (h : frC c M M2) (h2 : frC c M2 M3) : frC c M M3 := fun k i hk => (h2 k i hk).trans (h k i hk)
theorem frL.rf {c : Nat} {M : zm_M} : frL c M M := fun _ _ _ => rfl
theorem frL.put {c : Nat} {M M2 : zm_M} (h : frL c M M2) (k : Nat) (i v : Int) (hk : c ≤ k ∧ k ≤ c + 3) : frL c M (zm_put M2 k i v) := by
  intro k2 i2 h2
  unfold zm_put
  rw [if_neg (fun x => by omega)]
  exact h k2 i2 h2
theorem frL.tr {c : Nat} {M M2 M3 : zm_M} (h : frL c M M2) (h2 : frL c M2 M3) : frL c M M3 := fun k i hk => (h2 k i hk).trans (h k i hk)
theorem lvX_fr {M M2 : zm_M} {l : Nat} (h : ∀ (k : Nat) (i : Int), l ≤ k → k ≤ l + 3 → M2 k i = M k i) : lvX M2 l = lvX M l := by
  unfold lvX lyX
  have e0 : ∀ i, M2 l i = M l i := fun i => h l i (by omega) (by omega)
  have e1 : M2 (l + 1) = M (l + 1) := funext fun i => h (l + 1) i (by omega) (by omega)
  have e2 : M2 (l + 2) = M (l + 2) := funext fun i => h (l + 2) i (by omega) (by omega)
  have e3 : M2 (l + 3) = M (l + 3) := funext fun i => h (l + 3) i (by omega) (by omega)
  simp only [e0, e1, e2, e3]
theorem cvX_fr {M M2 : zm_M} {c : Nat} (h : ∀ (k : Nat) (i : Int), c ≤ k → k ≤ c + 4 → M2 k i = M k i) : cvX M2 c = cvX M c := by
  unfold cvX
  have e0 : ∀ i, M2 c i = M c i := fun i => h c i (by omega) (by omega)
  have e1 : M2 (c + 1) = M (c + 1) := funext fun i => h (c + 1) i (by omega) (by omega)
  have e2 : M2 (c + 2) = M (c + 2) := funext fun i => h (c + 2) i (by omega) (by omega)
  have e3 : M2 (c + 3) = M (c + 3) := funext fun i => h (c + 3) i (by omega) (by omega)
  have e4 : M2 (c + 4) = M (c + 4) := funext fun i => h (c + 4) i (by omega) (by omega)
  simp only [e0, e1, e2, e3, e4]
theorem put_up (M : zm_M) (k : Nat) (i v : Int) : zm_put M k i v k = upI (M k) i v := by
  funext j
  unfold zm_put upI
  simp
theorem put_ne (M : zm_M) {k k2 : Nat} (i v : Int) (h : k2 ≠ k) : zm_put M k i v k2 = M k2 := by
  funext j
  unfold zm_put
  rw [if_neg (fun x => h x.1)]
theorem cvX_pl {M : zm_M} {c : Nat} {t v : Int} (h0 : 0 ≤ t) (h1 : t < M c 5) : cvX (zm_put M (c + 1) t v) c = (upI (cp (cvX M c)) t v, (cvX M c).2) := by
  unfold cvX
  rw [put_up, put_ne M t v (show c ≠ c + 1 by omega), put_ne M t v (show c + 2 ≠ c + 1 by omega), put_ne M t v (show c + 3 ≠ c + 1 by omega), put_ne M t v (show c + 4 ≠ c + 1 by omega), msk_up h0 h1]
theorem cvX_kd {M : zm_M} {c : Nat} {t v : Int} (h0 : 0 ≤ t) (h1 : t < M c 5) : cvX (zm_put M (c + 2) t v) c = (cp (cvX M c), upI (ck (cvX M c)) t v, (cvX M c).2.2) := by
  unfold cvX
  rw [put_up, put_ne M t v (show c ≠ c + 2 by omega), put_ne M t v (show c + 1 ≠ c + 2 by omega), put_ne M t v (show c + 3 ≠ c + 2 by omega), put_ne M t v (show c + 4 ≠ c + 2 by omega), msk_up h0 h1]
theorem cvX_kn {M : zm_M} {c : Nat} {t v : Int} (h0 : 0 ≤ t) (h1 : t < M c 5) : cvX (zm_put M (c + 3) t v) c = (cp (cvX M c), ck (cvX M c), upI (cn (cvX M c)) t v, (cvX M c).2.2.2) := by
  unfold cvX
  rw [put_up, put_ne M t v (show c ≠ c + 3 by omega), put_ne M t v (show c + 1 ≠ c + 3 by omega), put_ne M t v (show c + 2 ≠ c + 3 by omega), put_ne M t v (show c + 4 ≠ c + 3 by omega), msk_up h0 h1]
theorem cvX_wh {M : zm_M} {c : Nat} {t v : Int} (h0 : 0 ≤ t) (h1 : t < M c 5) : cvX (zm_put M (c + 4) t v) c = (cp (cvX M c), ck (cvX M c), cn (cvX M c), upI (ch (cvX M c)) t v, (cvX M c).2.2.2.2) := by
  unfold cvX
  rw [put_up, put_ne M t v (show c ≠ c + 4 by omega), put_ne M t v (show c + 1 ≠ c + 4 by omega), put_ne M t v (show c + 2 ≠ c + 4 by omega), put_ne M t v (show c + 3 ≠ c + 4 by omega), msk_up h0 h1]
theorem cvX_wa {M : zm_M} {c : Nat} {v : Int} : cvX (zm_put M c 4 v) c = (cp (cvX M c), ck (cvX M c), cn (cvX M c), ch (cvX M c), v, (cvX M c).2.2.2.2.2) := by
  unfold cvX
  rw [put_ne M 4 v (show c + 1 ≠ c by omega), put_ne M 4 v (show c + 2 ≠ c by omega), put_ne M 4 v (show c + 3 ≠ c by omega), put_ne M 4 v (show c + 4 ≠ c by omega), put_up]
  rfl
theorem cvX_ni {M : zm_M} {c : Nat} {v : Int} : cvX (zm_put M c 6 v) c = (cp (cvX M c), ck (cvX M c), cn (cvX M c), ch (cvX M c), cw (cvX M c), ct (cvX M c), v) := by
  unfold cvX
  rw [put_ne M 6 v (show c + 1 ≠ c by omega), put_ne M 6 v (show c + 2 ≠ c by omega), put_ne M 6 v (show c + 3 ≠ c by omega), put_ne M 6 v (show c + 4 ≠ c by omega), put_up]
  rfl
/-! what a kiln gives -/
def kat (f : Int → Int) (p : Int) : Nat → Int → Int
  | 0, _ => -9
  | n + 1, g => if f g = p then g else kat f p n (g + 1)
def kiA (L : Ln) (p : Int) : Int := kat L.2.1 p L.1.toNat 0
theorem kat_in {f : Int → Int} {p : Int} : ∀ (n : Nat) (g : Int), kat f p n g = -9 ∨ (g ≤ kat f p n g ∧ kat f p n g < g + n ∧ f (kat f p n g) = p)
  | 0, g => Or.inl rfl
  | n + 1, g => by
    unfold kat
    split
    · rename_i h
      exact Or.inr ⟨Int.le_refl _, by omega, h⟩
    · rcases kat_in (f := f) (p := p) n (g + 1) with h | ⟨h1, h2, h3⟩
      · exact Or.inl h
      · exact Or.inr ⟨by omega, by omega, h3⟩
theorem kiA_in (L : Ln) (p : Int) (h : 0 ≤ L.1) : kiA L p = -9 ∨ (0 ≤ kiA L p ∧ kiA L p < L.1 ∧ L.2.1 (kiA L p) = p) := by
  rcases kat_in (f := L.2.1) (p := p) L.1.toNat 0 with h1 | ⟨h1, h2, h3⟩
  · exact Or.inl h1
  · exact Or.inr ⟨h1, by unfold kiA; omega, h3⟩
def tkL (ly : Int → Int) : Nat → Int → Int → Int → Int
  | 0, _, _, s => s
  | n + 1, k, left, s => if 0 < left then (if bt s (ly k) = true then tkL ly n (k + 1) left s else tkL ly n (k + 1) (left - 1) (zb_or s (zb_shl 1 (ly k)))) else s
def app (kd : Int) : Int := if kd = 1 then 2 else if kd = 2 then 6 else 1
def lie (L : Ln) (g t : Int) (C : Cm) : Cm := (cp C, ck C, upI (cn C) t (tkL (L.2.2.2 g) (L.2.2.1 g).toNat 0 (app (ck C t)) (cn C t)), upI (ch C) t (if ch C t + (if ck C t = 2 then 2 else 1) < 9 then ch C t + (if ck C t = 2 then 2 else 1) else 9), C.2.2.2.2)
def n1 (L : Ln) (cold : Int) (t : Int) (C : Cm) : Cm := if kiA L (cp C t) = -9 ∨ bt cold (kiA L (cp C t)) = true ∨ 9 ≤ ch C t then C else lie L (kiA L (cp C t)) t C
def kAt (C : Cm) (p : Int) : Int := fo (fun t b => if cp C t = p then zb_or b (cn C t) else b) 0 (ct C).toNat
def n2 (t : Int) (C : Cm) : Cm := if ck C t = 3 ∧ ¬ 9 ≤ ch C t then (cp C, ck C, upI (cn C) t (zb_or (cn C t) (kAt C (cp C t))), C.2.2.2) else C
def nit (L : Ln) (cold : Int) (C : Cm) : Cm := 
  let D := fo n2 (fo (n1 L cold) C (ct C).toNat) (ct C).toNat
  (cp D, ck D, cn D, ch D, 0, ct D, cg D + 1)
def cgo (t p : Int) (C : Cm) : Cm := (upI (cp C) t p, ck C, cn C, ch C, zb_or (cw C) (zb_shl 1 t), ct C, cg C)
abbrev cHas (C : Cm) (t : Int) : Prop := 0 ≤ t ∧ t < ct C
abbrev cMay (C : Cm) (t p : Int) : Prop := cHas C t ∧ (0 ≤ p ∧ p < 10) ∧ ¬ 9 ≤ ch C t ∧ ¬ bt (cw C) t = true ∧ ¬ cp C t = p ∧ (if p ≤ cp C t then cp C t - p else p - cp C t) ≤ 3 - ch C t / 3
abbrev cHear (C : Cm) (a b : Int) : Prop := cHas C a ∧ cHas C b ∧ ¬ a = b ∧ cp C a = cp C b ∧ ¬ 9 ≤ ch C b
def chr (a b : Int) (C : Cm) : Cm := (cp C, ck C, upI (cn C) b (zb_or (cn C b) (cn C a)), C.2.2.2)
abbrev cBat (C : Cm) (t : Int) : Prop := cHas C t ∧ ¬ 9 ≤ ch C t
def cba (t : Int) (C : Cm) : Cm := (cp C, ck C, upI (cn C) t 0, upI (ch C) t 0, C.2.2.2.2)
/-! small sets, by the kernel -/
theorem bd_or6 : ∀ s : Nat, s < 64 → ∀ l : Nat, l < 6 → 0 ≤ zb_or (s : Int) (zb_shl 1 (l : Int)) ∧ zb_or (s : Int) (zb_shl 1 (l : Int)) < 64 := by decide +kernel
theorem bd_bt6 : ∀ s : Nat, s < 64 → ∀ l : Nat, l < 6 → (zb_and (s : Int) (zb_shl 1 (l : Int)) = 0 ↔ bt (s : Int) (l : Int) = false) ∧ 0 ≤ zb_and (s : Int) (zb_shl 1 (l : Int)) ∧ zb_and (s : Int) (zb_shl 1 (l : Int)) < 64 := by decide +kernel
theorem bd_oo : ∀ s : Nat, s < 64 → ∀ l : Nat, l < 64 → 0 ≤ zb_or (s : Int) (l : Int) ∧ zb_or (s : Int) (l : Int) < 64 := by
  intro s hs l hl
  rw [zb_or_n s l 6 (by decide) hs hl]
  have := Nat.or_lt_two_pow (n := 6) hs hl
  exact ⟨Int.natCast_nonneg _, Int.ofNat_lt.mpr this⟩
theorem or6 {s l : Int} (hs : 0 ≤ s ∧ s < 64) (hl : 0 ≤ l ∧ l < 6) : 0 ≤ zb_or s (zb_shl 1 l) ∧ zb_or s (zb_shl 1 l) < 64 := by
  obtain ⟨s, rfl⟩ := Int.eq_ofNat_of_zero_le hs.1
  obtain ⟨l, rfl⟩ := Int.eq_ofNat_of_zero_le hl.1
  exact bd_or6 s (by omega) l (by omega)
theorem and6 {s l : Int} (hs : 0 ≤ s ∧ s < 64) (hl : 0 ≤ l ∧ l < 6) : (zb_and s (zb_shl 1 l) = 0 ↔ bt s l = false) ∧ 0 ≤ zb_and s (zb_shl 1 l) ∧ zb_and s (zb_shl 1 l) < 64 := by
  obtain ⟨s, rfl⟩ := Int.eq_ofNat_of_zero_le hs.1
  obtain ⟨l, rfl⟩ := Int.eq_ofNat_of_zero_le hl.1
  exact bd_bt6 s (by omega) l (by omega)
theorem oo6 {s l : Int} (hs : 0 ≤ s ∧ s < 64) (hl : 0 ≤ l ∧ l < 64) : 0 ≤ zb_or s l ∧ zb_or s l < 64 := by
  obtain ⟨s, rfl⟩ := Int.eq_ofNat_of_zero_le hs.1
  obtain ⟨l, rfl⟩ := Int.eq_ofNat_of_zero_le hl.1
  exact bd_oo s (by omega) l (by omega)
theorem tkL_in {ly : Int → Int} (hl : ∀ k, 0 ≤ ly k ∧ ly k ≤ 5) : ∀ (n : Nat) (k left s : Int), 0 ≤ s ∧ s < 64 → 0 ≤ tkL ly n k left s ∧ tkL ly n k left s < 64
  | 0, k, left, s, h => h
  | n + 1, k, left, s, h => by
    unfold tkL
    have h1 := hl k
    split
    · split
      · exact tkL_in hl n (k + 1) left s h
      · exact tkL_in hl n (k + 1) (left - 1) _ (or6 h ⟨h1.1, by omega⟩)
    · exact h
theorem CW.lie {L : Ln} {g t : Int} {C : Cm} (hL : LW L) (h : CW C) : CW (lie L g t C) := by
  obtain ⟨h1, h2, h3⟩ := h
  refine ⟨h1, h2, fun i => ?_⟩
  have h4 := h3 i
  have h5 := tkL_in (ly := L.2.2.2 g) (hL.2.2 g) (L.2.2.1 g).toNat 0 (app (ck C t)) (cn C t) (h3 t).2.2.1
  have h6 := (h3 t).2.2.2
  refine ⟨h4.1, h4.2.1, ?_, ?_⟩
  · show 0 ≤ upI _ _ _ _ ∧ upI _ _ _ _ < 64
    unfold upI
    split
    · exact h5
    · exact h4.2.2.1
  · show 0 ≤ upI _ _ _ _ ∧ upI _ _ _ _ ≤ 9
    unfold upI
    split
    · split <;> split <;> omega
    · exact h4.2.2.2
theorem CW_n1 {L : Ln} {cold t : Int} {C : Cm} (hL : LW L) (h : CW C) : CW (n1 L cold t C) := by
  unfold n1
  split
  · exact h
  · exact CW.lie hL h
theorem kAt_in {C : Cm} {p : Int} (h : CW C) : 0 ≤ kAt C p ∧ kAt C p < 64 := by
  unfold kAt
  refine fo_p (P := fun b : Int => 0 ≤ b ∧ b < 64) ⟨by decide, by decide⟩ (fun i b _ _ hb => ?_)
  show 0 ≤ (if cp C i = p then zb_or b (cn C i) else b) ∧ (if cp C i = p then zb_or b (cn C i) else b) < 64
  split
  · exact oo6 hb (h.2.2 i).2.2.1
  · exact hb
theorem CW_kn {C : Cm} {t v : Int} (h : CW C) (hv : 0 ≤ v ∧ v < 64) : CW (cp C, ck C, upI (cn C) t v, C.2.2.2) := by
  obtain ⟨h1, h2, h3⟩ := h
  refine ⟨h1, h2, fun i => ?_⟩
  have h4 := h3 i
  refine ⟨h4.1, h4.2.1, ?_, h4.2.2.2⟩
  show 0 ≤ upI _ _ _ _ ∧ upI _ _ _ _ < 64
  unfold upI
  split
  · exact hv
  · exact h4.2.2.1
theorem CW_n2 {t : Int} {C : Cm} (h : CW C) : CW (n2 t C) := by
  unfold n2
  split
  · exact CW_kn h (oo6 (h.2.2 t).2.2.1 (kAt_in h))
  · exact h
theorem n1_ct {L : Ln} {cold t : Int} {C : Cm} : ct (n1 L cold t C) = ct C := by
  unfold n1
  split <;> rfl
theorem n2_ct {t : Int} {C : Cm} : ct (n2 t C) = ct C := by
  unfold n2
  split <;> rfl
theorem CW_wa {C : Cm} {v n : Int} (h : CW C) (hv : 0 ≤ v ∧ v < 2 ^ (ct C).toNat) : CW (cp C, ck C, cn C, ch C, v, ct C, n) := ⟨h.1, hv, h.2.2⟩
theorem CW_fo1 {L : Ln} {cold : Int} {C : Cm} (hL : LW L) (h : CW C) (n : Nat) : CW (fo (n1 L cold) C n) := fo_p (P := CW) h (fun _ _ _ _ hb => CW_n1 hL hb)
theorem CW_fo2 {C : Cm} (h : CW C) (n : Nat) : CW (fo n2 C n) := fo_p (P := CW) h (fun _ _ _ _ hb => CW_n2 hb)
theorem ct_fo1 {L : Ln} {cold : Int} {C : Cm} (n : Nat) : ct (fo (n1 L cold) C n) = ct C := fo_p (P := fun D => ct D = ct C) rfl (fun _ _ _ _ hb => n1_ct.trans hb)
theorem ct_fo2 {C : Cm} (n : Nat) : ct (fo n2 C n) = ct C := fo_p (P := fun D => ct D = ct C) rfl (fun _ _ _ _ hb => n2_ct.trans hb)
theorem pw_pos (n : Nat) : (0 : Int) < 2 ^ n := Int.pow_pos (by decide)
theorem CW_nit {L : Ln} {cold : Int} {C : Cm} (hL : LW L) (h : CW C) : CW (nit L cold C) := by
  have h1 := CW_fo2 (CW_fo1 (cold := cold) hL h (ct C).toNat) (ct C).toNat
  exact CW_wa h1 ⟨by decide, pw_pos _⟩
theorem nit_ct {L : Ln} {cold : Int} {C : Cm} : ct (nit L cold C) = ct C := (ct_fo2 _).trans (ct_fo1 _)
theorem bd_w : ∀ n : Nat, n ≤ 4 → ∀ w : Nat, w < 2 ^ n → ∀ t : Nat, t < n → 0 ≤ zb_or (w : Int) (zb_shl 1 (t : Int)) ∧ zb_or (w : Int) (zb_shl 1 (t : Int)) < ((2 ^ n : Nat) : Int) := by decide +kernel
theorem pw_n (n : Nat) : (2 : Int) ^ n = ((2 ^ n : Nat) : Int) := by simp
theorem CW_go {C : Cm} {t p : Int} (h : CW C) (ht : 0 ≤ t ∧ t < ct C) (hp : 0 ≤ p ∧ p ≤ 9) : CW (cgo t p C) := by
  obtain ⟨h1, h2, h3⟩ := h
  refine ⟨h1, ?_, fun i => ?_⟩
  · show 0 ≤ zb_or (cw C) (zb_shl 1 t) ∧ zb_or (cw C) (zb_shl 1 t) < 2 ^ (ct C).toNat
    obtain ⟨w, hw⟩ := Int.eq_ofNat_of_zero_le h2.1
    obtain ⟨t, rfl⟩ := Int.eq_ofNat_of_zero_le ht.1
    rw [hw] at h2 ⊢
    rw [pw_n] at h2 ⊢
    exact bd_w (ct C).toNat (by omega) w (by omega) t (by omega)
  · have h4 := h3 i
    refine ⟨?_, h4.2⟩
    show 0 ≤ upI _ _ _ _ ∧ upI _ _ _ _ ≤ 9
    unfold upI
    split
    · exact hp
    · exact h4.1
theorem CW_chr {C : Cm} {a b : Int} (h : CW C) : CW (chr a b C) := CW_kn h (oo6 (h.2.2 b).2.2.1 (h.2.2 a).2.2.1)
theorem CW_cba {C : Cm} {t : Int} (h : CW C) : CW (cba t C) := by
  obtain ⟨h1, h2, h3⟩ := h
  refine ⟨h1, h2, fun i => ?_⟩
  have h4 := h3 i
  refine ⟨h4.1, h4.2.1, ?_, ?_⟩
  · show 0 ≤ upI _ _ _ _ ∧ upI _ _ _ _ < 64
    unfold upI
    split
    · exact ⟨by decide, by decide⟩
    · exact h4.2.2.1
  · show 0 ≤ upI _ _ _ _ ∧ upI _ _ _ _ ≤ 9
    unfold upI
    split
    · exact ⟨by decide, by decide⟩
    · exact h4.2.2.2
/-! reading the class's cells through the view -/
theorem vX_t (M : zm_M) (c : Nat) : ct (cvX M c) = M c 5 := rfl
theorem vX_p {M : zm_M} {c : Nat} {t : Int} (h : 0 ≤ t ∧ t < M c 5) : cp (cvX M c) t = M (c + 1) t := msk_in h.1 h.2
theorem vX_k {M : zm_M} {c : Nat} {t : Int} (h : 0 ≤ t ∧ t < M c 5) : ck (cvX M c) t = M (c + 2) t := msk_in h.1 h.2
theorem vX_n {M : zm_M} {c : Nat} {t : Int} (h : 0 ≤ t ∧ t < M c 5) : cn (cvX M c) t = M (c + 3) t := msk_in h.1 h.2
theorem vX_h {M : zm_M} {c : Nat} {t : Int} (h : 0 ≤ t ∧ t < M c 5) : ch (cvX M c) t = M (c + 4) t := msk_in h.1 h.2
theorem wX {M : zm_M} {c : Nat} (h : CW (cvX M c)) {t : Int} (ht : 0 ≤ t ∧ t < M c 5) : (0 ≤ M (c + 1) t ∧ M (c + 1) t ≤ 9) ∧ (0 ≤ M (c + 2) t ∧ M (c + 2) t ≤ 3) ∧ (0 ≤ M (c + 3) t ∧ M (c + 3) t < 64) ∧ (0 ≤ M (c + 4) t ∧ M (c + 4) t ≤ 9) := by
  have h1 := h.2.2 t
  rw [vX_p ht, vX_k ht, vX_n ht, vX_h ht] at h1
  exact h1
theorem wXt {M : zm_M} {c : Nat} (h : CW (cvX M c)) : 0 ≤ M c 5 ∧ M c 5 ≤ 4 := h.1
theorem wXw {M : zm_M} {c : Nat} (h : CW (cvX M c)) : 0 ≤ M c 4 ∧ M c 4 < 16 := ⟨h.2.1.1, h.w16⟩
theorem lX_p {M : zm_M} {l : Nat} {g : Int} (h : 0 ≤ g ∧ g < M l 3) : (lvX M l).2.1 g = M (l + 1) g := msk_in h.1 h.2
theorem lX_d {M : zm_M} {l : Nat} {g : Int} (h : 0 ≤ g ∧ g < M l 3) : (lvX M l).2.2.1 g = M (l + 2) g := msk_in h.1 h.2
theorem lX_y {M : zm_M} {l : Nat} {g k : Int} (h : 0 ≤ g ∧ g < M l 3) (hk : 0 ≤ k ∧ k < M (l + 2) g) : (lvX M l).2.2.2 g k = M (l + 3) (g * 4 + k) := if_pos ⟨h, hk⟩
theorem yX {M : zm_M} {l : Nat} (h : LW (lvX M l)) {g : Int} (hg : 0 ≤ g ∧ g < M l 3) : (0 ≤ M (l + 1) g ∧ M (l + 1) g ≤ 9) ∧ (0 ≤ M (l + 2) g ∧ M (l + 2) g ≤ 4) := by
  have h1 := h.2.1 g
  rw [lX_p hg, lX_d hg] at h1
  exact h1
theorem yXl {M : zm_M} {l : Nat} (h : LW (lvX M l)) {g k : Int} (hg : 0 ≤ g ∧ g < M l 3) (hk : 0 ≤ k ∧ k < M (l + 2) g) : 0 ≤ M (l + 3) (g * 4 + k) ∧ M (l + 3) (g * 4 + k) ≤ 5 := by
  have h1 := h.2.2 g k
  rw [lX_y hg hk] at h1
  exact h1
theorem yXk {M : zm_M} {l : Nat} (h : LW (lvX M l)) : 0 ≤ M l 3 ∧ M l 3 ≤ 4 := h.1
