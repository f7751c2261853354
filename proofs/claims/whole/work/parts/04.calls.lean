/-! returns -/
theorem zr_ireturn {g : zt_G} {μ : zt_M} {pc : Nat} {ls : List (Option zv_A)} {M : zm_M} {Q : Option zv_A → zm_M → Prop} {a : Int} (hd : decode μ.2.1 pc = .ok (.ireturn, 1)) (hr : μ.2.2.2.1 = some .int) (hQ : Q (some (zv_i a)) M) : zc_Z g μ pc ls [zv_i a] M Q := by
  intro p e s m args below meth c Qf H locs la C hf hP hS hl
  exact hf (some (zv_i a)) M H locs la pc hQ ⟨hd, Or.inl hr⟩ hP hS
theorem zr_zreturn {g : zt_G} {μ : zt_M} {pc : Nat} {ls : List (Option zv_A)} {M : zm_M} {Q : Option zv_A → zm_M → Prop} {a : Int} (hd : decode μ.2.1 pc = .ok (.ireturn, 1)) (hr : μ.2.2.2.1 = some .boolean) (ha : a = 0 ∨ a = 1) (hQ : Q (some (zv_i a)) M) : zc_Z g μ pc ls [zv_i a] M Q := by
  intro p e s m args below meth c Qf H locs la C hf hP hS hl
  exact hf (some (zv_i a)) M H locs la pc hQ ⟨hd, Or.inr ⟨hr, ha⟩⟩ hP hS
theorem zr_lreturn {g : zt_G} {μ : zt_M} {pc : Nat} {ls : List (Option zv_A)} {M : zm_M} {Q : Option zv_A → zm_M → Prop} {a : Int} (hd : decode μ.2.1 pc = .ok (.lreturn, 1)) (hr : μ.2.2.2.1 = some .long) (hQ : Q (some (zv_l a)) M) : zc_Z g μ pc ls [zv_l a] M Q := by
  intro p e s m args below meth c Qf H locs la C hf hP hS hl
  exact hf (some (zv_l a)) M H locs la pc hQ ⟨hd, hr⟩ hP hS
theorem zr_return {g : zt_G} {μ : zt_M} {pc : Nat} {ls : List (Option zv_A)} {M : zm_M} {Q : Option zv_A → zm_M → Prop} (hd : decode μ.2.1 pc = .ok (.return_, 1)) (hr : μ.2.2.2.1 = none) (hQ : Q none M) : zc_Z g μ pc ls [] M Q := by
  intro p e s m args below meth c Qf H locs la C hf hP hS hl
  exact hf none M H locs la pc hQ ⟨hd, hr⟩ hP hS
/-- from the walk of a body to the contract -/
theorem zc_of {g : zt_G} {y : MethodName} {μ : zt_M} {av : List zv_A} {ls : List (Option zv_A)} {M : zm_M} {Q : Option zv_A → zm_M → Prop} (hy : plainName y.cls = true) (hown : μ.1 = y.cls) (hc : μ.2.2.2.2.2.1 = 0 ∧ μ.2.2.2.2.2.2 = 0) (hlen : (lg_sl (av.map (zv_c g))).length ≤ μ.2.2.1) (hls : lv_args 0 (av.map (zv_c g)) = zs_m g 0 ls) (h : zc_Z g μ 0 ls [] M Q) : zc_K g y μ av M Q := by
  obtain ⟨own, cc, nL, ret, R, c1, c2⟩ := μ
  obtain ⟨e1, e2⟩ := hc
  dsimp only at e1 e2 hown hlen
  subst e1
  subst e2
  subst hown
  refine Met.ofW (cc := cc) (maxL := nL) (ret := ret) hy rfl ?_
  intro p e s m args below meth c s₁ B hml hv
  obtain ⟨rfl, hP, hSt⟩ := hv
  have hts := atoms_spec (ws := .code y cc nL ret :: zt_tb) B.pre
  have hl := lv_entry (av.map (zv_c g)) (n := nL) hlen
  rw [hls] at hl
  rw [lg_entry_eq]
  refine h p e s m _ below meth c _ s.heap [] _ ⟨B.exec, B.bytes, hml, findClass_of_methodNamed B.named, fun w hw => hts w (List.mem_cons_of_mem _ hw), hSt, Nat.zero_le _, Nat.zero_le _⟩ ?_ hP va_S.rf hl
  intro v M2 H2 locs2 la2 pc2 hQ hR hP2 hS2
  have hlocks := B.notSynchronized
  have hr := B.returns
  rcases v with _ | z | z | k
  · exact W.vret B.exec B.bytes (by rw [hr]; exact hR.2) (fun t ht hW => ⟨⟨none, M2, rfl, hQ, by rw [ht]; exact hP2⟩, hS2.F ht⟩) hS2.2.2 hR.1
  · obtain ⟨hd, hty | ⟨hty, hz⟩⟩ := hR
    · exact W.iret B.exec B.bytes (by rw [hr]; exact hty) (fun t ht hW => ⟨⟨some (zv_i z), M2, rfl, hQ, by rw [ht]; exact hP2⟩, hS2.F ht⟩) hS2.2.2 hd
    · exact W.zret (ty := .boolean) B.exec B.bytes (by rw [hr]; exact hty) (by rcases hz with rfl | rfl <;> decide) (fun t ht hW => ⟨⟨some (zv_i z), M2, rfl, hQ, by rw [ht]; exact hP2⟩, hS2.F ht⟩) hS2.2.2 hd
  · exact W.lret B.exec B.bytes (by rw [hr]; exact hR.2) (fun t ht hW => ⟨⟨some (zv_l z), M2, rfl, hQ, by rw [ht]; exact hP2⟩, hS2.F ht⟩) hS2.2.2 hR.1
  · exact absurd hR (fun x => x)
theorem zq_blind {g : zt_G} {av : List zv_A} {M : zm_M} : FrameBlind (zq_P g av M) := fun a U f mk h => ⟨h.1, h.2.1, h.2.2.blind f mk a⟩
theorem zc_call {g : zt_G} {p : Program} {e : Env} {R : Room} {s : State} {m : MethodId} {args : Array Value} {below : List Frame} {meth : Method} {c : Code} {H : Heap} {locs : List Loc} {cells slots pc : Nat} {Qf : State → Prop} {la : Array Slot} {st0 rest : List Value} {a : Array Value} {Q : Option zv_A → zm_M → Prop}
    (hr : va_Run p (zg_l g) e R s m args below meth c H locs cells slots 0 0 (F0 m pc la st0) rest (zq_Q g Q a) (zg_A g)) (hS : va_S (zg_A g) s.heap H locs)
    (kk : ∀ (v : Option zv_A) (M2 : zm_M) (H1 : Heap) (locs1 : List Loc), Q v M2 → va_P (zg_D g) zl_cl (zl_w g M2) H1 → va_S (zg_A g) s.heap H1 locs1 → W p (zg_l g) e R s m args below meth c H1 locs1 cells slots Qf (F0 m (pc + 3) la (v.toList.map (zv_c g) ++ rest))) : W p (zg_l g) e R s m args below meth c H locs cells slots Qf (F0 m pc la st0) := by
  intro T hT X
  obtain ⟨v, st₀, t, T', L, h0, X', hL, e1, e2, ⟨⟨v2, M2, hv, hq, hP2⟩, hz, hk⟩, st⟩ := hr T hT X
  have hv2 : v = v2.map (zv_c g) := Outcome.returned.inj hv
  subst hv2
  rw [h0] at hz hk
  obtain ⟨t2, a1, b1⟩ := kk v2 M2 T'.heap (locs ++ L) hq (by rw [e1]; exact hP2)
    ⟨Nat.le_trans hS.1 (by rw [e1]; exact hz), fun q h1 h2 => by rw [e1, hk q (Nat.lt_of_lt_of_le h1 hS.1) h2]; exact hS.2.1 q h1 h2, fun q hq => by
      rcases List.mem_append.mp hq with h | h
      · exact hS.2.2 q h
      · exact hL q h⟩ T' rfl X'
  refine ⟨t2, st t2 ?_, b1⟩
  have e3 : (v2.map (zv_c g)).toList ++ rest = v2.toList.map (zv_c g) ++ rest := by cases v2 <;> rfl
  show Steps p.tables e below (T'.setTop (F0 m (pc + 3) la ((v2.map (zv_c g)).toList ++ rest))) t2
  rw [e3]
  exact a1
/-- how a call names its method -/
def zt_Y (y : MethodName) (n : Nat) : Prop := y.cls ≠ "java/lang/invoke/MethodHandle" ∧ y.cls ≠ "java/lang/invoke/VarHandle" ∧ (parseMethodDescriptor y.desc).map (fun d => d.parameters.length) = some n
def zt_V (own : String) (ix : Nat) (y : MethodName) (μ : zt_M) (n : Nat) : Prop := (∀ w ∈ [Cond.methodLink own ix y, Cond.instanceMethod y, Cond.selects y.cls y y, Cond.initialized y.cls, Cond.code y μ.2.1 μ.2.2.1 μ.2.2.2.1], w ∈ zt_tb) ∧ zt_Y y n
def zt_X (own : String) (ix : Nat) (y : MethodName) (μ : zt_M) (n : Nat) : Prop := (∀ w ∈ [Cond.methodLink own ix y, Cond.static y, Cond.initialized y.cls, Cond.code y μ.2.1 μ.2.2.1 μ.2.2.2.1], w ∈ zt_tb) ∧ zt_Y y n
def zt_N (own : String) (ix : Nat) (y : MethodName) (μ : zt_M) (n : Nat) : Prop := (∀ w ∈ [Cond.static y, Cond.initialized y.cls, Cond.code y μ.2.1 μ.2.2.1 μ.2.2.2.1], w ∈ zt_tb) ∧ zt_Y y n ∧ ∃ host, (own, ix, y, host) ∈ zk_nest
def zv_w : List zv_A → Nat
  | [] => 0
  | .inr (.inl _) :: r => 2 + zv_w r
  | _ :: r => 1 + zv_w r
theorem zv_w_eq (g : zt_G) : ∀ l : List zv_A, ((l.map (zv_c g)).map fun v => v.category).sum = zv_w l
  | [] => rfl
  | .inl z :: r => by
    have h := zv_w_eq g r
    simp [zv_w, zv_c, Value.category] at h ⊢
    omega
  | .inr (.inl z) :: r => by
    have h := zv_w_eq g r
    simp [zv_w, zv_c, Value.category] at h ⊢
    omega
  | .inr (.inr z) :: r => by
    have h := zv_w_eq g r
    simp [zv_w, zv_c, Value.category] at h ⊢
    omega
def zt_L (μ ν : zt_M) : Bool := Nat.ble (ν.2.2.2.2.1.frames + 1) μ.2.2.2.2.1.frames && Nat.ble (8 + (ν.2.2.1 + 11) + ν.2.2.2.2.1.locals) μ.2.2.2.2.1.locals && Nat.beq ν.2.2.2.2.1.cells 0 && Nat.beq ν.2.2.2.2.1.slots 0
theorem zt_L.of {μ ν : zt_M} (h : zt_L μ ν = true) : ν.2.2.2.2.1.frames + 1 ≤ μ.2.2.2.2.1.frames ∧ 8 + (ν.2.2.1 + 11) + ν.2.2.2.2.1.locals ≤ μ.2.2.2.2.1.locals ∧ ν.2.2.2.2.1.cells = 0 ∧ ν.2.2.2.2.1.slots = 0 := by
  unfold zt_L at h
  simp only [Bool.and_eq_true] at h
  obtain ⟨⟨⟨h1, h2⟩, h3⟩, h4⟩ := h
  exact ⟨Nat.le_of_ble_eq_true h1, Nat.le_of_ble_eq_true h2, Nat.eq_of_beq_eq_true h3, Nat.eq_of_beq_eq_true h4⟩
theorem zc_B {μ ν : zt_M} {s : State} {args : Array Value} {own : String} {ix n : Nat} {y : MethodName} (hts : ∀ w ∈ zt_tb, w.before args s = true) (hcode : Cond.code y ν.2.1 ν.2.2.1 ν.2.2.2.1 ∈ zt_tb) (hini : Cond.initialized y.cls ∈ zt_tb) (hlink : Cond.methodLink own ix y ∈ zt_tb) (hY : zt_Y y n) (hL : zt_L μ ν = true) : CallB μ.2.2.2.2.1 s args own ix y ν.2.1 ν.2.2.1 ν.2.2.2.1 (.code y ν.2.1 ν.2.2.1 ν.2.2.2.1 :: zt_tb) ν.2.2.2.2.1 0 0 n := by
  obtain ⟨l1, l2, l3, l4⟩ := zt_L.of hL
  exact callB_of n hts (zt_good hcode) rfl l3 l4 (hts _ hini) (hts _ hlink) hY ⟨l1, l2⟩
theorem zr_inv {g : zt_G} {μ : zt_M} {pc : Nat} {ls : List (Option zv_A)} {st : List zv_A} {M : zm_M} {Q : Option zv_A → zm_M → Prop} {own : String} {ix n o ci : Nat} {fs : List (Nat ⊕ Nat)} {y : MethodName} {ν : zt_M} {As rest : List zv_A} (hown : μ.1 = own) (hV : zt_V own ix y ν n) (ho : zl_lay[o]? = some (.inl (ci, fs))) (hcl : (zl_cl[ci]?).map (fun q => q.1) = some y.cls) (hL : zt_L μ ν = true) (hn : As.length = n) (hw : Nat.ble (zv_w rest) 8 = true) (hd : decode μ.2.1 pc = .ok (.invokevirtual ix, 3))
    (hst : st = As.reverse ++ zv_r o :: rest) (hK : zc_K g y ν (zv_r o :: As) M (fun v M2 => zc_Z g μ (pc + 3) ls (v.toList ++ rest) M2 Q)) : zc_Z g μ pc ls st M Q := by
  intro p e s m args below meth c Qf H locs la C hf hP hS hl
  subst hst
  subst hown
  obtain ⟨hV1, hY⟩ := hV
  have hts := C.2.2.2.2.1
  obtain ⟨q, hq, hq2⟩ : ∃ q, zl_cl[ci]? = some q ∧ q.1 = y.cls := by
    cases hz : zl_cl[ci]? with
    | none => rw [hz] at hcl; cases hcl
    | some q => rw [hz] at hcl; exact ⟨q, rfl, by simpa using hcl⟩
  have hrecv := va_recv C.2.2.2.2.2.1.2.2.2.2.2.2 hP hq (a := zg_ad g o) (q0 := o) (fs := zl_fs g M o 0 fs) (by rw [zl_w_at g M (zl_lt ho), zl_ct_o ho])
  rw [hq2] at hrecv
  have e1 : (As.reverse ++ zv_r o :: rest).map (zv_c g) = (As.map (zv_c g)).reverse ++ .ref (zg_ad g o) :: rest.map (zv_c g) := by
    rw [List.map_append, List.map_reverse]
    rfl
  rw [e1]
  refine zc_call (rest := rest.map (zv_c g)) (va_runV (As := As.map (zv_c g)) (rest := rest.map (zv_c g)) (C := y.cls) (b := zg_ad g o) ⟨C.1, C.2.1, C.2.2.1, C.2.2.2.1, hts⟩ hK ⟨zc_B hts (hV1 _ (by simp)) (hV1 _ (by simp)) (hV1 _ (by simp)) hY hL, hts _ (hV1 _ (by simp)), hts _ (hV1 _ (by simp))⟩ ⟨zq_blind, hrecv, fun U hU hW => ⟨rfl, by rw [hU]; exact hP, C.2.2.2.2.2.1.next hS hU hW⟩⟩ rfl (by rw [List.length_map]; exact hn) hl.1 rfl (lv_room (by rw [zv_w_eq]; exact Nat.le_of_ble_eq_true hw)) hd ⟨C.2.2.2.2.2.2.1, C.2.2.2.2.2.2.2⟩) hS (fun v M2 H1 locs1 hQ hP1 hS1 => ?_)
  rw [← List.map_append]
  exact hQ p e s m args below meth c Qf H1 locs1 la C hf hP1 hS1 hl
theorem zr_stat {g : zt_G} {μ : zt_M} {pc : Nat} {ls : List (Option zv_A)} {st : List zv_A} {M : zm_M} {Q : Option zv_A → zm_M → Prop} {own : String} {ix n : Nat} {y : MethodName} {ν : zt_M} {As rest : List zv_A} (hown : μ.1 = own) (hV : zt_X own ix y ν n) (hL : zt_L μ ν = true) (hn : As.length = n) (hw : Nat.ble (zv_w rest) 8 = true) (hd : decode μ.2.1 pc = .ok (.invokestatic ix, 3))
    (hst : st = As.reverse ++ rest) (hK : zc_K g y ν As M (fun v M2 => zc_Z g μ (pc + 3) ls (v.toList ++ rest) M2 Q)) : zc_Z g μ pc ls st M Q := by
  intro p e s m args below meth c Qf H locs la C hf hP hS hl
  subst hst
  subst hown
  obtain ⟨hV1, hY⟩ := hV
  have hts := C.2.2.2.2.1
  rw [List.map_append, List.map_reverse]
  refine zc_call (rest := rest.map (zv_c g)) (va_runS (As := As.map (zv_c g)) (rest := rest.map (zv_c g)) ⟨C.1, C.2.1, C.2.2.1, C.2.2.2.1, hts⟩ hK ⟨zc_B hts (hV1 _ (by simp)) (hV1 _ (by simp)) (hV1 _ (by simp)) hY hL, hts _ (hV1 _ (by simp))⟩ ⟨zq_blind, fun U hU hW => ⟨rfl, by rw [hU]; exact hP, C.2.2.2.2.2.1.next hS hU hW⟩⟩ rfl (by rw [List.length_map]; exact hn) hl.1 rfl (lv_room (by rw [zv_w_eq]; exact Nat.le_of_ble_eq_true hw)) hd ⟨C.2.2.2.2.2.2.1, C.2.2.2.2.2.2.2⟩) hS (fun v M2 H1 locs1 hQ hP1 hS1 => ?_)
  rw [← List.map_append]
  exact hQ p e s m args below meth c Qf H1 locs1 la C hf hP1 hS1 hl
theorem zr_nest {g : zt_G} {μ : zt_M} {pc : Nat} {ls : List (Option zv_A)} {st : List zv_A} {M : zm_M} {Q : Option zv_A → zm_M → Prop} {own : String} {ix n : Nat} {y : MethodName} {ν : zt_M} {As rest : List zv_A} (hown : μ.1 = own) (hV : zt_N own ix y ν n) (hL : zt_L μ ν = true) (hn : As.length = n) (hw : Nat.ble (zv_w rest) 8 = true) (hd : decode μ.2.1 pc = .ok (.invokestatic ix, 3))
    (hst : st = As.reverse ++ rest) (hK : zc_K g y ν As M (fun v M2 => zc_Z g μ (pc + 3) ls (v.toList ++ rest) M2 Q)) : zc_Z g μ pc ls st M Q := by
  intro p e s m args below meth c Qf H locs la C hf hP hS hl
  subst hst
  subst hown
  obtain ⟨hV1, hY, host, hh⟩ := hV
  obtain ⟨l1, l2, l3, l4⟩ := zt_L.of hL
  have hts := C.2.2.2.2.1
  have hnw := C.2.2.2.2.2.1.1 _ hh
  rw [List.map_append, List.map_reverse]
  refine zc_call (rest := rest.map (zv_c g)) (va_runSN (host := host) (As := As.map (zv_c g)) (rest := rest.map (zv_c g)) ⟨C.1, C.2.1, C.2.2.1, C.2.2.2.1, hts⟩ hK ⟨va_cnB n hts (zt_good (hV1 _ (by simp))) rfl l3 l4 hnw (hts _ (hV1 _ (by simp))) hY ⟨l1, l2⟩, hts _ (hV1 _ (by simp)), trivial⟩ ⟨zq_blind, fun U hU hW => ⟨rfl, by rw [hU]; exact hP, C.2.2.2.2.2.1.next hS hU hW⟩⟩ rfl (by rw [List.length_map]; exact hn) hl.1 rfl (lv_room (by rw [zv_w_eq]; exact Nat.le_of_ble_eq_true hw)) hd ⟨C.2.2.2.2.2.2.1, C.2.2.2.2.2.2.2⟩) hS (fun v M2 H1 locs1 hQ hP1 hS1 => ?_)
  rw [← List.map_append]
  exact hQ p e s m args below meth c Qf H1 locs1 la C hf hP1 hS1 hl
/-- contracts by what comes back -/
def zq_I (q : Int → zm_M → Prop) : Option zv_A → zm_M → Prop := fun v M => match v with
  | some (.inl r) => q r M
  | _ => False
def zq_L (q : Int → zm_M → Prop) : Option zv_A → zm_M → Prop := fun v M => match v with
  | some (.inr (.inl r)) => q r M
  | _ => False
def zq_V (q : zm_M → Prop) : Option zv_A → zm_M → Prop := fun v M => match v with
  | none => q M
  | _ => False
theorem zc_K.mono {g : zt_G} {y : MethodName} {μ : zt_M} {av : List zv_A} {M : zm_M} {Q Q2 : Option zv_A → zm_M → Prop} (h : zc_K g y μ av M Q) (hQ : ∀ v M2, Q v M2 → Q2 v M2) : zc_K g y μ av M Q2 := by
  intro p e ha hc hk s m args below hf happ hP hK
  obtain ⟨n, o, h1, h2, h3, ⟨⟨⟨v, M2, g1, g2, g3⟩, g4⟩, h5⟩⟩ := h p e ha hc hk s m args below hf happ hP hK
  exact ⟨n, o, h1, h2, h3, ⟨⟨⟨v, M2, g1, hQ v M2 g2, g3⟩, g4⟩, h5⟩⟩

theorem zr_inv0I {g : zt_G} {μ : zt_M} {pc : Nat} {ls : List (Option zv_A)} {st : List zv_A} {M : zm_M} {Q : Option zv_A → zm_M → Prop} {own : String} {ix o ci : Nat} {fs : List (Nat ⊕ Nat)} {y : MethodName} {ν : zt_M} (hown : μ.1 = own) (hV : zt_V own ix y ν 0) (ho : zl_lay[o]? = some (.inl (ci, fs))) (hcl : (zl_cl[ci]?).map (fun q => q.1) = some y.cls) (hL : zt_L μ ν = true) (hw : Nat.ble (zv_w st) 8 = true) (hd : decode μ.2.1 pc = .ok (.invokevirtual ix, 3)) (hK : zc_K g y ν [zv_r o] M (zq_I (fun r M2 => zc_Z g μ (pc + 3) ls (zv_i r :: st) M2 Q))) : zc_Z g μ pc ls (zv_r o :: st) M Q := by
  refine zr_inv (As := []) (rest := st) hown hV ho hcl hL rfl hw hd rfl (hK.mono ?_)
  intro v M2 h
  rcases v with _ | z | z | z
  all_goals first | exact h | exact absurd h (fun x => x)
theorem zr_inv0L {g : zt_G} {μ : zt_M} {pc : Nat} {ls : List (Option zv_A)} {st : List zv_A} {M : zm_M} {Q : Option zv_A → zm_M → Prop} {own : String} {ix o ci : Nat} {fs : List (Nat ⊕ Nat)} {y : MethodName} {ν : zt_M} (hown : μ.1 = own) (hV : zt_V own ix y ν 0) (ho : zl_lay[o]? = some (.inl (ci, fs))) (hcl : (zl_cl[ci]?).map (fun q => q.1) = some y.cls) (hL : zt_L μ ν = true) (hw : Nat.ble (zv_w st) 8 = true) (hd : decode μ.2.1 pc = .ok (.invokevirtual ix, 3)) (hK : zc_K g y ν [zv_r o] M (zq_L (fun r M2 => zc_Z g μ (pc + 3) ls (zv_l r :: st) M2 Q))) : zc_Z g μ pc ls (zv_r o :: st) M Q := by
  refine zr_inv (As := []) (rest := st) hown hV ho hcl hL rfl hw hd rfl (hK.mono ?_)
  intro v M2 h
  rcases v with _ | z | z | z
  all_goals first | exact h | exact absurd h (fun x => x)
theorem zr_inv0V {g : zt_G} {μ : zt_M} {pc : Nat} {ls : List (Option zv_A)} {st : List zv_A} {M : zm_M} {Q : Option zv_A → zm_M → Prop} {own : String} {ix o ci : Nat} {fs : List (Nat ⊕ Nat)} {y : MethodName} {ν : zt_M} (hown : μ.1 = own) (hV : zt_V own ix y ν 0) (ho : zl_lay[o]? = some (.inl (ci, fs))) (hcl : (zl_cl[ci]?).map (fun q => q.1) = some y.cls) (hL : zt_L μ ν = true) (hw : Nat.ble (zv_w st) 8 = true) (hd : decode μ.2.1 pc = .ok (.invokevirtual ix, 3)) (hK : zc_K g y ν [zv_r o] M (zq_V (fun M2 => zc_Z g μ (pc + 3) ls st M2 Q))) : zc_Z g μ pc ls (zv_r o :: st) M Q := by
  refine zr_inv (As := []) (rest := st) hown hV ho hcl hL rfl hw hd rfl (hK.mono ?_)
  intro v M2 h
  rcases v with _ | z | z | z
  all_goals first | exact h | exact absurd h (fun x => x)
theorem zr_inv1I {g : zt_G} {μ : zt_M} {pc : Nat} {ls : List (Option zv_A)} {st : List zv_A} {M : zm_M} {Q : Option zv_A → zm_M → Prop} {own : String} {ix o ci : Nat} {fs : List (Nat ⊕ Nat)} {y : MethodName} {ν : zt_M} {a1 : zv_A} (hown : μ.1 = own) (hV : zt_V own ix y ν 1) (ho : zl_lay[o]? = some (.inl (ci, fs))) (hcl : (zl_cl[ci]?).map (fun q => q.1) = some y.cls) (hL : zt_L μ ν = true) (hw : Nat.ble (zv_w st) 8 = true) (hd : decode μ.2.1 pc = .ok (.invokevirtual ix, 3)) (hK : zc_K g y ν [zv_r o, a1] M (zq_I (fun r M2 => zc_Z g μ (pc + 3) ls (zv_i r :: st) M2 Q))) : zc_Z g μ pc ls (a1 :: zv_r o :: st) M Q := by
  refine zr_inv (As := [a1]) (rest := st) hown hV ho hcl hL rfl hw hd rfl (hK.mono ?_)
  intro v M2 h
  rcases v with _ | z | z | z
  all_goals first | exact h | exact absurd h (fun x => x)
theorem zr_inv1L {g : zt_G} {μ : zt_M} {pc : Nat} {ls : List (Option zv_A)} {st : List zv_A} {M : zm_M} {Q : Option zv_A → zm_M → Prop} {own : String} {ix o ci : Nat} {fs : List (Nat ⊕ Nat)} {y : MethodName} {ν : zt_M} {a1 : zv_A} (hown : μ.1 = own) (hV : zt_V own ix y ν 1) (ho : zl_lay[o]? = some (.inl (ci, fs))) (hcl : (zl_cl[ci]?).map (fun q => q.1) = some y.cls) (hL : zt_L μ ν = true) (hw : Nat.ble (zv_w st) 8 = true) (hd : decode μ.2.1 pc = .ok (.invokevirtual ix, 3)) (hK : zc_K g y ν [zv_r o, a1] M (zq_L (fun r M2 => zc_Z g μ (pc + 3) ls (zv_l r :: st) M2 Q))) : zc_Z g μ pc ls (a1 :: zv_r o :: st) M Q := by
  refine zr_inv (As := [a1]) (rest := st) hown hV ho hcl hL rfl hw hd rfl (hK.mono ?_)
  intro v M2 h
  rcases v with _ | z | z | z
  all_goals first | exact h | exact absurd h (fun x => x)
theorem zr_inv1V {g : zt_G} {μ : zt_M} {pc : Nat} {ls : List (Option zv_A)} {st : List zv_A} {M : zm_M} {Q : Option zv_A → zm_M → Prop} {own : String} {ix o ci : Nat} {fs : List (Nat ⊕ Nat)} {y : MethodName} {ν : zt_M} {a1 : zv_A} (hown : μ.1 = own) (hV : zt_V own ix y ν 1) (ho : zl_lay[o]? = some (.inl (ci, fs))) (hcl : (zl_cl[ci]?).map (fun q => q.1) = some y.cls) (hL : zt_L μ ν = true) (hw : Nat.ble (zv_w st) 8 = true) (hd : decode μ.2.1 pc = .ok (.invokevirtual ix, 3)) (hK : zc_K g y ν [zv_r o, a1] M (zq_V (fun M2 => zc_Z g μ (pc + 3) ls st M2 Q))) : zc_Z g μ pc ls (a1 :: zv_r o :: st) M Q := by
  refine zr_inv (As := [a1]) (rest := st) hown hV ho hcl hL rfl hw hd rfl (hK.mono ?_)
  intro v M2 h
  rcases v with _ | z | z | z
  all_goals first | exact h | exact absurd h (fun x => x)
theorem zr_inv2I {g : zt_G} {μ : zt_M} {pc : Nat} {ls : List (Option zv_A)} {st : List zv_A} {M : zm_M} {Q : Option zv_A → zm_M → Prop} {own : String} {ix o ci : Nat} {fs : List (Nat ⊕ Nat)} {y : MethodName} {ν : zt_M} {a1 a2 : zv_A} (hown : μ.1 = own) (hV : zt_V own ix y ν 2) (ho : zl_lay[o]? = some (.inl (ci, fs))) (hcl : (zl_cl[ci]?).map (fun q => q.1) = some y.cls) (hL : zt_L μ ν = true) (hw : Nat.ble (zv_w st) 8 = true) (hd : decode μ.2.1 pc = .ok (.invokevirtual ix, 3)) (hK : zc_K g y ν [zv_r o, a1, a2] M (zq_I (fun r M2 => zc_Z g μ (pc + 3) ls (zv_i r :: st) M2 Q))) : zc_Z g μ pc ls (a2 :: a1 :: zv_r o :: st) M Q := by
  refine zr_inv (As := [a1, a2]) (rest := st) hown hV ho hcl hL rfl hw hd rfl (hK.mono ?_)
  intro v M2 h
  rcases v with _ | z | z | z
  all_goals first | exact h | exact absurd h (fun x => x)
theorem zr_inv2L {g : zt_G} {μ : zt_M} {pc : Nat} {ls : List (Option zv_A)} {st : List zv_A} {M : zm_M} {Q : Option zv_A → zm_M → Prop} {own : String} {ix o ci : Nat} {fs : List (Nat ⊕ Nat)} {y : MethodName} {ν : zt_M} {a1 a2 : zv_A} (hown : μ.1 = own) (hV : zt_V own ix y ν 2) (ho : zl_lay[o]? = some (.inl (ci, fs))) (hcl : (zl_cl[ci]?).map (fun q => q.1) = some y.cls) (hL : zt_L μ ν = true) (hw : Nat.ble (zv_w st) 8 = true) (hd : decode μ.2.1 pc = .ok (.invokevirtual ix, 3)) (hK : zc_K g y ν [zv_r o, a1, a2] M (zq_L (fun r M2 => zc_Z g μ (pc + 3) ls (zv_l r :: st) M2 Q))) : zc_Z g μ pc ls (a2 :: a1 :: zv_r o :: st) M Q := by
  refine zr_inv (As := [a1, a2]) (rest := st) hown hV ho hcl hL rfl hw hd rfl (hK.mono ?_)
  intro v M2 h
  rcases v with _ | z | z | z
  all_goals first | exact h | exact absurd h (fun x => x)
theorem zr_inv2V {g : zt_G} {μ : zt_M} {pc : Nat} {ls : List (Option zv_A)} {st : List zv_A} {M : zm_M} {Q : Option zv_A → zm_M → Prop} {own : String} {ix o ci : Nat} {fs : List (Nat ⊕ Nat)} {y : MethodName} {ν : zt_M} {a1 a2 : zv_A} (hown : μ.1 = own) (hV : zt_V own ix y ν 2) (ho : zl_lay[o]? = some (.inl (ci, fs))) (hcl : (zl_cl[ci]?).map (fun q => q.1) = some y.cls) (hL : zt_L μ ν = true) (hw : Nat.ble (zv_w st) 8 = true) (hd : decode μ.2.1 pc = .ok (.invokevirtual ix, 3)) (hK : zc_K g y ν [zv_r o, a1, a2] M (zq_V (fun M2 => zc_Z g μ (pc + 3) ls st M2 Q))) : zc_Z g μ pc ls (a2 :: a1 :: zv_r o :: st) M Q := by
  refine zr_inv (As := [a1, a2]) (rest := st) hown hV ho hcl hL rfl hw hd rfl (hK.mono ?_)
  intro v M2 h
  rcases v with _ | z | z | z
  all_goals first | exact h | exact absurd h (fun x => x)
theorem zr_inv3I {g : zt_G} {μ : zt_M} {pc : Nat} {ls : List (Option zv_A)} {st : List zv_A} {M : zm_M} {Q : Option zv_A → zm_M → Prop} {own : String} {ix o ci : Nat} {fs : List (Nat ⊕ Nat)} {y : MethodName} {ν : zt_M} {a1 a2 a3 : zv_A} (hown : μ.1 = own) (hV : zt_V own ix y ν 3) (ho : zl_lay[o]? = some (.inl (ci, fs))) (hcl : (zl_cl[ci]?).map (fun q => q.1) = some y.cls) (hL : zt_L μ ν = true) (hw : Nat.ble (zv_w st) 8 = true) (hd : decode μ.2.1 pc = .ok (.invokevirtual ix, 3)) (hK : zc_K g y ν [zv_r o, a1, a2, a3] M (zq_I (fun r M2 => zc_Z g μ (pc + 3) ls (zv_i r :: st) M2 Q))) : zc_Z g μ pc ls (a3 :: a2 :: a1 :: zv_r o :: st) M Q := by
  refine zr_inv (As := [a1, a2, a3]) (rest := st) hown hV ho hcl hL rfl hw hd rfl (hK.mono ?_)
  intro v M2 h
  rcases v with _ | z | z | z
  all_goals first | exact h | exact absurd h (fun x => x)
theorem zr_inv3L {g : zt_G} {μ : zt_M} {pc : Nat} {ls : List (Option zv_A)} {st : List zv_A} {M : zm_M} {Q : Option zv_A → zm_M → Prop} {own : String} {ix o ci : Nat} {fs : List (Nat ⊕ Nat)} {y : MethodName} {ν : zt_M} {a1 a2 a3 : zv_A} (hown : μ.1 = own) (hV : zt_V own ix y ν 3) (ho : zl_lay[o]? = some (.inl (ci, fs))) (hcl : (zl_cl[ci]?).map (fun q => q.1) = some y.cls) (hL : zt_L μ ν = true) (hw : Nat.ble (zv_w st) 8 = true) (hd : decode μ.2.1 pc = .ok (.invokevirtual ix, 3)) (hK : zc_K g y ν [zv_r o, a1, a2, a3] M (zq_L (fun r M2 => zc_Z g μ (pc + 3) ls (zv_l r :: st) M2 Q))) : zc_Z g μ pc ls (a3 :: a2 :: a1 :: zv_r o :: st) M Q := by
  refine zr_inv (As := [a1, a2, a3]) (rest := st) hown hV ho hcl hL rfl hw hd rfl (hK.mono ?_)
  intro v M2 h
  rcases v with _ | z | z | z
  all_goals first | exact h | exact absurd h (fun x => x)
theorem zr_inv3V {g : zt_G} {μ : zt_M} {pc : Nat} {ls : List (Option zv_A)} {st : List zv_A} {M : zm_M} {Q : Option zv_A → zm_M → Prop} {own : String} {ix o ci : Nat} {fs : List (Nat ⊕ Nat)} {y : MethodName} {ν : zt_M} {a1 a2 a3 : zv_A} (hown : μ.1 = own) (hV : zt_V own ix y ν 3) (ho : zl_lay[o]? = some (.inl (ci, fs))) (hcl : (zl_cl[ci]?).map (fun q => q.1) = some y.cls) (hL : zt_L μ ν = true) (hw : Nat.ble (zv_w st) 8 = true) (hd : decode μ.2.1 pc = .ok (.invokevirtual ix, 3)) (hK : zc_K g y ν [zv_r o, a1, a2, a3] M (zq_V (fun M2 => zc_Z g μ (pc + 3) ls st M2 Q))) : zc_Z g μ pc ls (a3 :: a2 :: a1 :: zv_r o :: st) M Q := by
  refine zr_inv (As := [a1, a2, a3]) (rest := st) hown hV ho hcl hL rfl hw hd rfl (hK.mono ?_)
  intro v M2 h
  rcases v with _ | z | z | z
  all_goals first | exact h | exact absurd h (fun x => x)
theorem zr_inv4I {g : zt_G} {μ : zt_M} {pc : Nat} {ls : List (Option zv_A)} {st : List zv_A} {M : zm_M} {Q : Option zv_A → zm_M → Prop} {own : String} {ix o ci : Nat} {fs : List (Nat ⊕ Nat)} {y : MethodName} {ν : zt_M} {a1 a2 a3 a4 : zv_A} (hown : μ.1 = own) (hV : zt_V own ix y ν 4) (ho : zl_lay[o]? = some (.inl (ci, fs))) (hcl : (zl_cl[ci]?).map (fun q => q.1) = some y.cls) (hL : zt_L μ ν = true) (hw : Nat.ble (zv_w st) 8 = true) (hd : decode μ.2.1 pc = .ok (.invokevirtual ix, 3)) (hK : zc_K g y ν [zv_r o, a1, a2, a3, a4] M (zq_I (fun r M2 => zc_Z g μ (pc + 3) ls (zv_i r :: st) M2 Q))) : zc_Z g μ pc ls (a4 :: a3 :: a2 :: a1 :: zv_r o :: st) M Q := by
  refine zr_inv (As := [a1, a2, a3, a4]) (rest := st) hown hV ho hcl hL rfl hw hd rfl (hK.mono ?_)
  intro v M2 h
  rcases v with _ | z | z | z
  all_goals first | exact h | exact absurd h (fun x => x)
theorem zr_inv4L {g : zt_G} {μ : zt_M} {pc : Nat} {ls : List (Option zv_A)} {st : List zv_A} {M : zm_M} {Q : Option zv_A → zm_M → Prop} {own : String} {ix o ci : Nat} {fs : List (Nat ⊕ Nat)} {y : MethodName} {ν : zt_M} {a1 a2 a3 a4 : zv_A} (hown : μ.1 = own) (hV : zt_V own ix y ν 4) (ho : zl_lay[o]? = some (.inl (ci, fs))) (hcl : (zl_cl[ci]?).map (fun q => q.1) = some y.cls) (hL : zt_L μ ν = true) (hw : Nat.ble (zv_w st) 8 = true) (hd : decode μ.2.1 pc = .ok (.invokevirtual ix, 3)) (hK : zc_K g y ν [zv_r o, a1, a2, a3, a4] M (zq_L (fun r M2 => zc_Z g μ (pc + 3) ls (zv_l r :: st) M2 Q))) : zc_Z g μ pc ls (a4 :: a3 :: a2 :: a1 :: zv_r o :: st) M Q := by
  refine zr_inv (As := [a1, a2, a3, a4]) (rest := st) hown hV ho hcl hL rfl hw hd rfl (hK.mono ?_)
  intro v M2 h
  rcases v with _ | z | z | z
  all_goals first | exact h | exact absurd h (fun x => x)
theorem zr_inv4V {g : zt_G} {μ : zt_M} {pc : Nat} {ls : List (Option zv_A)} {st : List zv_A} {M : zm_M} {Q : Option zv_A → zm_M → Prop} {own : String} {ix o ci : Nat} {fs : List (Nat ⊕ Nat)} {y : MethodName} {ν : zt_M} {a1 a2 a3 a4 : zv_A} (hown : μ.1 = own) (hV : zt_V own ix y ν 4) (ho : zl_lay[o]? = some (.inl (ci, fs))) (hcl : (zl_cl[ci]?).map (fun q => q.1) = some y.cls) (hL : zt_L μ ν = true) (hw : Nat.ble (zv_w st) 8 = true) (hd : decode μ.2.1 pc = .ok (.invokevirtual ix, 3)) (hK : zc_K g y ν [zv_r o, a1, a2, a3, a4] M (zq_V (fun M2 => zc_Z g μ (pc + 3) ls st M2 Q))) : zc_Z g μ pc ls (a4 :: a3 :: a2 :: a1 :: zv_r o :: st) M Q := by
  refine zr_inv (As := [a1, a2, a3, a4]) (rest := st) hown hV ho hcl hL rfl hw hd rfl (hK.mono ?_)
  intro v M2 h
  rcases v with _ | z | z | z
  all_goals first | exact h | exact absurd h (fun x => x)
theorem zr_inv5I {g : zt_G} {μ : zt_M} {pc : Nat} {ls : List (Option zv_A)} {st : List zv_A} {M : zm_M} {Q : Option zv_A → zm_M → Prop} {own : String} {ix o ci : Nat} {fs : List (Nat ⊕ Nat)} {y : MethodName} {ν : zt_M} {a1 a2 a3 a4 a5 : zv_A} (hown : μ.1 = own) (hV : zt_V own ix y ν 5) (ho : zl_lay[o]? = some (.inl (ci, fs))) (hcl : (zl_cl[ci]?).map (fun q => q.1) = some y.cls) (hL : zt_L μ ν = true) (hw : Nat.ble (zv_w st) 8 = true) (hd : decode μ.2.1 pc = .ok (.invokevirtual ix, 3)) (hK : zc_K g y ν [zv_r o, a1, a2, a3, a4, a5] M (zq_I (fun r M2 => zc_Z g μ (pc + 3) ls (zv_i r :: st) M2 Q))) : zc_Z g μ pc ls (a5 :: a4 :: a3 :: a2 :: a1 :: zv_r o :: st) M Q := by
  refine zr_inv (As := [a1, a2, a3, a4, a5]) (rest := st) hown hV ho hcl hL rfl hw hd rfl (hK.mono ?_)
  intro v M2 h
  rcases v with _ | z | z | z
  all_goals first | exact h | exact absurd h (fun x => x)
theorem zr_inv5L {g : zt_G} {μ : zt_M} {pc : Nat} {ls : List (Option zv_A)} {st : List zv_A} {M : zm_M} {Q : Option zv_A → zm_M → Prop} {own : String} {ix o ci : Nat} {fs : List (Nat ⊕ Nat)} {y : MethodName} {ν : zt_M} {a1 a2 a3 a4 a5 : zv_A} (hown : μ.1 = own) (hV : zt_V own ix y ν 5) (ho : zl_lay[o]? = some (.inl (ci, fs))) (hcl : (zl_cl[ci]?).map (fun q => q.1) = some y.cls) (hL : zt_L μ ν = true) (hw : Nat.ble (zv_w st) 8 = true) (hd : decode μ.2.1 pc = .ok (.invokevirtual ix, 3)) (hK : zc_K g y ν [zv_r o, a1, a2, a3, a4, a5] M (zq_L (fun r M2 => zc_Z g μ (pc + 3) ls (zv_l r :: st) M2 Q))) : zc_Z g μ pc ls (a5 :: a4 :: a3 :: a2 :: a1 :: zv_r o :: st) M Q := by
  refine zr_inv (As := [a1, a2, a3, a4, a5]) (rest := st) hown hV ho hcl hL rfl hw hd rfl (hK.mono ?_)
  intro v M2 h
  rcases v with _ | z | z | z
  all_goals first | exact h | exact absurd h (fun x => x)
theorem zr_inv5V {g : zt_G} {μ : zt_M} {pc : Nat} {ls : List (Option zv_A)} {st : List zv_A} {M : zm_M} {Q : Option zv_A → zm_M → Prop} {own : String} {ix o ci : Nat} {fs : List (Nat ⊕ Nat)} {y : MethodName} {ν : zt_M} {a1 a2 a3 a4 a5 : zv_A} (hown : μ.1 = own) (hV : zt_V own ix y ν 5) (ho : zl_lay[o]? = some (.inl (ci, fs))) (hcl : (zl_cl[ci]?).map (fun q => q.1) = some y.cls) (hL : zt_L μ ν = true) (hw : Nat.ble (zv_w st) 8 = true) (hd : decode μ.2.1 pc = .ok (.invokevirtual ix, 3)) (hK : zc_K g y ν [zv_r o, a1, a2, a3, a4, a5] M (zq_V (fun M2 => zc_Z g μ (pc + 3) ls st M2 Q))) : zc_Z g μ pc ls (a5 :: a4 :: a3 :: a2 :: a1 :: zv_r o :: st) M Q := by
  refine zr_inv (As := [a1, a2, a3, a4, a5]) (rest := st) hown hV ho hcl hL rfl hw hd rfl (hK.mono ?_)
  intro v M2 h
  rcases v with _ | z | z | z
  all_goals first | exact h | exact absurd h (fun x => x)
theorem zr_stat1I {g : zt_G} {μ : zt_M} {pc : Nat} {ls : List (Option zv_A)} {st : List zv_A} {M : zm_M} {Q : Option zv_A → zm_M → Prop} {own : String} {ix : Nat} {y : MethodName} {ν : zt_M} {a1 : zv_A} (hown : μ.1 = own) (hV : zt_X own ix y ν 1) (hL : zt_L μ ν = true) (hw : Nat.ble (zv_w st) 8 = true) (hd : decode μ.2.1 pc = .ok (.invokestatic ix, 3)) (hK : zc_K g y ν [a1] M (zq_I (fun r M2 => zc_Z g μ (pc + 3) ls (zv_i r :: st) M2 Q))) : zc_Z g μ pc ls (a1 :: st) M Q := by
  refine zr_stat (As := [a1]) (rest := st) hown hV hL rfl hw hd rfl (hK.mono ?_)
  intro v M2 h
  rcases v with _ | z | z | z
  all_goals first | exact h | exact absurd h (fun x => x)
theorem zr_stat1L {g : zt_G} {μ : zt_M} {pc : Nat} {ls : List (Option zv_A)} {st : List zv_A} {M : zm_M} {Q : Option zv_A → zm_M → Prop} {own : String} {ix : Nat} {y : MethodName} {ν : zt_M} {a1 : zv_A} (hown : μ.1 = own) (hV : zt_X own ix y ν 1) (hL : zt_L μ ν = true) (hw : Nat.ble (zv_w st) 8 = true) (hd : decode μ.2.1 pc = .ok (.invokestatic ix, 3)) (hK : zc_K g y ν [a1] M (zq_L (fun r M2 => zc_Z g μ (pc + 3) ls (zv_l r :: st) M2 Q))) : zc_Z g μ pc ls (a1 :: st) M Q := by
  refine zr_stat (As := [a1]) (rest := st) hown hV hL rfl hw hd rfl (hK.mono ?_)
  intro v M2 h
  rcases v with _ | z | z | z
  all_goals first | exact h | exact absurd h (fun x => x)
theorem zr_stat1V {g : zt_G} {μ : zt_M} {pc : Nat} {ls : List (Option zv_A)} {st : List zv_A} {M : zm_M} {Q : Option zv_A → zm_M → Prop} {own : String} {ix : Nat} {y : MethodName} {ν : zt_M} {a1 : zv_A} (hown : μ.1 = own) (hV : zt_X own ix y ν 1) (hL : zt_L μ ν = true) (hw : Nat.ble (zv_w st) 8 = true) (hd : decode μ.2.1 pc = .ok (.invokestatic ix, 3)) (hK : zc_K g y ν [a1] M (zq_V (fun M2 => zc_Z g μ (pc + 3) ls st M2 Q))) : zc_Z g μ pc ls (a1 :: st) M Q := by
  refine zr_stat (As := [a1]) (rest := st) hown hV hL rfl hw hd rfl (hK.mono ?_)
  intro v M2 h
  rcases v with _ | z | z | z
  all_goals first | exact h | exact absurd h (fun x => x)
theorem zr_stat2I {g : zt_G} {μ : zt_M} {pc : Nat} {ls : List (Option zv_A)} {st : List zv_A} {M : zm_M} {Q : Option zv_A → zm_M → Prop} {own : String} {ix : Nat} {y : MethodName} {ν : zt_M} {a1 a2 : zv_A} (hown : μ.1 = own) (hV : zt_X own ix y ν 2) (hL : zt_L μ ν = true) (hw : Nat.ble (zv_w st) 8 = true) (hd : decode μ.2.1 pc = .ok (.invokestatic ix, 3)) (hK : zc_K g y ν [a1, a2] M (zq_I (fun r M2 => zc_Z g μ (pc + 3) ls (zv_i r :: st) M2 Q))) : zc_Z g μ pc ls (a2 :: a1 :: st) M Q := by
  refine zr_stat (As := [a1, a2]) (rest := st) hown hV hL rfl hw hd rfl (hK.mono ?_)
  intro v M2 h
  rcases v with _ | z | z | z
  all_goals first | exact h | exact absurd h (fun x => x)
theorem zr_stat2L {g : zt_G} {μ : zt_M} {pc : Nat} {ls : List (Option zv_A)} {st : List zv_A} {M : zm_M} {Q : Option zv_A → zm_M → Prop} {own : String} {ix : Nat} {y : MethodName} {ν : zt_M} {a1 a2 : zv_A} (hown : μ.1 = own) (hV : zt_X own ix y ν 2) (hL : zt_L μ ν = true) (hw : Nat.ble (zv_w st) 8 = true) (hd : decode μ.2.1 pc = .ok (.invokestatic ix, 3)) (hK : zc_K g y ν [a1, a2] M (zq_L (fun r M2 => zc_Z g μ (pc + 3) ls (zv_l r :: st) M2 Q))) : zc_Z g μ pc ls (a2 :: a1 :: st) M Q := by
  refine zr_stat (As := [a1, a2]) (rest := st) hown hV hL rfl hw hd rfl (hK.mono ?_)
  intro v M2 h
  rcases v with _ | z | z | z
  all_goals first | exact h | exact absurd h (fun x => x)
theorem zr_stat2V {g : zt_G} {μ : zt_M} {pc : Nat} {ls : List (Option zv_A)} {st : List zv_A} {M : zm_M} {Q : Option zv_A → zm_M → Prop} {own : String} {ix : Nat} {y : MethodName} {ν : zt_M} {a1 a2 : zv_A} (hown : μ.1 = own) (hV : zt_X own ix y ν 2) (hL : zt_L μ ν = true) (hw : Nat.ble (zv_w st) 8 = true) (hd : decode μ.2.1 pc = .ok (.invokestatic ix, 3)) (hK : zc_K g y ν [a1, a2] M (zq_V (fun M2 => zc_Z g μ (pc + 3) ls st M2 Q))) : zc_Z g μ pc ls (a2 :: a1 :: st) M Q := by
  refine zr_stat (As := [a1, a2]) (rest := st) hown hV hL rfl hw hd rfl (hK.mono ?_)
  intro v M2 h
  rcases v with _ | z | z | z
  all_goals first | exact h | exact absurd h (fun x => x)
theorem zr_stat3I {g : zt_G} {μ : zt_M} {pc : Nat} {ls : List (Option zv_A)} {st : List zv_A} {M : zm_M} {Q : Option zv_A → zm_M → Prop} {own : String} {ix : Nat} {y : MethodName} {ν : zt_M} {a1 a2 a3 : zv_A} (hown : μ.1 = own) (hV : zt_X own ix y ν 3) (hL : zt_L μ ν = true) (hw : Nat.ble (zv_w st) 8 = true) (hd : decode μ.2.1 pc = .ok (.invokestatic ix, 3)) (hK : zc_K g y ν [a1, a2, a3] M (zq_I (fun r M2 => zc_Z g μ (pc + 3) ls (zv_i r :: st) M2 Q))) : zc_Z g μ pc ls (a3 :: a2 :: a1 :: st) M Q := by
  refine zr_stat (As := [a1, a2, a3]) (rest := st) hown hV hL rfl hw hd rfl (hK.mono ?_)
  intro v M2 h
  rcases v with _ | z | z | z
  all_goals first | exact h | exact absurd h (fun x => x)
theorem zr_stat3L {g : zt_G} {μ : zt_M} {pc : Nat} {ls : List (Option zv_A)} {st : List zv_A} {M : zm_M} {Q : Option zv_A → zm_M → Prop} {own : String} {ix : Nat} {y : MethodName} {ν : zt_M} {a1 a2 a3 : zv_A} (hown : μ.1 = own) (hV : zt_X own ix y ν 3) (hL : zt_L μ ν = true) (hw : Nat.ble (zv_w st) 8 = true) (hd : decode μ.2.1 pc = .ok (.invokestatic ix, 3)) (hK : zc_K g y ν [a1, a2, a3] M (zq_L (fun r M2 => zc_Z g μ (pc + 3) ls (zv_l r :: st) M2 Q))) : zc_Z g μ pc ls (a3 :: a2 :: a1 :: st) M Q := by
  refine zr_stat (As := [a1, a2, a3]) (rest := st) hown hV hL rfl hw hd rfl (hK.mono ?_)
  intro v M2 h
  rcases v with _ | z | z | z
  all_goals first | exact h | exact absurd h (fun x => x)
theorem zr_stat3V {g : zt_G} {μ : zt_M} {pc : Nat} {ls : List (Option zv_A)} {st : List zv_A} {M : zm_M} {Q : Option zv_A → zm_M → Prop} {own : String} {ix : Nat} {y : MethodName} {ν : zt_M} {a1 a2 a3 : zv_A} (hown : μ.1 = own) (hV : zt_X own ix y ν 3) (hL : zt_L μ ν = true) (hw : Nat.ble (zv_w st) 8 = true) (hd : decode μ.2.1 pc = .ok (.invokestatic ix, 3)) (hK : zc_K g y ν [a1, a2, a3] M (zq_V (fun M2 => zc_Z g μ (pc + 3) ls st M2 Q))) : zc_Z g μ pc ls (a3 :: a2 :: a1 :: st) M Q := by
  refine zr_stat (As := [a1, a2, a3]) (rest := st) hown hV hL rfl hw hd rfl (hK.mono ?_)
  intro v M2 h
  rcases v with _ | z | z | z
  all_goals first | exact h | exact absurd h (fun x => x)
theorem zr_stat4I {g : zt_G} {μ : zt_M} {pc : Nat} {ls : List (Option zv_A)} {st : List zv_A} {M : zm_M} {Q : Option zv_A → zm_M → Prop} {own : String} {ix : Nat} {y : MethodName} {ν : zt_M} {a1 a2 a3 a4 : zv_A} (hown : μ.1 = own) (hV : zt_X own ix y ν 4) (hL : zt_L μ ν = true) (hw : Nat.ble (zv_w st) 8 = true) (hd : decode μ.2.1 pc = .ok (.invokestatic ix, 3)) (hK : zc_K g y ν [a1, a2, a3, a4] M (zq_I (fun r M2 => zc_Z g μ (pc + 3) ls (zv_i r :: st) M2 Q))) : zc_Z g μ pc ls (a4 :: a3 :: a2 :: a1 :: st) M Q := by
  refine zr_stat (As := [a1, a2, a3, a4]) (rest := st) hown hV hL rfl hw hd rfl (hK.mono ?_)
  intro v M2 h
  rcases v with _ | z | z | z
  all_goals first | exact h | exact absurd h (fun x => x)
theorem zr_stat4L {g : zt_G} {μ : zt_M} {pc : Nat} {ls : List (Option zv_A)} {st : List zv_A} {M : zm_M} {Q : Option zv_A → zm_M → Prop} {own : String} {ix : Nat} {y : MethodName} {ν : zt_M} {a1 a2 a3 a4 : zv_A} (hown : μ.1 = own) (hV : zt_X own ix y ν 4) (hL : zt_L μ ν = true) (hw : Nat.ble (zv_w st) 8 = true) (hd : decode μ.2.1 pc = .ok (.invokestatic ix, 3)) (hK : zc_K g y ν [a1, a2, a3, a4] M (zq_L (fun r M2 => zc_Z g μ (pc + 3) ls (zv_l r :: st) M2 Q))) : zc_Z g μ pc ls (a4 :: a3 :: a2 :: a1 :: st) M Q := by
  refine zr_stat (As := [a1, a2, a3, a4]) (rest := st) hown hV hL rfl hw hd rfl (hK.mono ?_)
  intro v M2 h
  rcases v with _ | z | z | z
  all_goals first | exact h | exact absurd h (fun x => x)
theorem zr_stat4V {g : zt_G} {μ : zt_M} {pc : Nat} {ls : List (Option zv_A)} {st : List zv_A} {M : zm_M} {Q : Option zv_A → zm_M → Prop} {own : String} {ix : Nat} {y : MethodName} {ν : zt_M} {a1 a2 a3 a4 : zv_A} (hown : μ.1 = own) (hV : zt_X own ix y ν 4) (hL : zt_L μ ν = true) (hw : Nat.ble (zv_w st) 8 = true) (hd : decode μ.2.1 pc = .ok (.invokestatic ix, 3)) (hK : zc_K g y ν [a1, a2, a3, a4] M (zq_V (fun M2 => zc_Z g μ (pc + 3) ls st M2 Q))) : zc_Z g μ pc ls (a4 :: a3 :: a2 :: a1 :: st) M Q := by
  refine zr_stat (As := [a1, a2, a3, a4]) (rest := st) hown hV hL rfl hw hd rfl (hK.mono ?_)
  intro v M2 h
  rcases v with _ | z | z | z
  all_goals first | exact h | exact absurd h (fun x => x)
theorem zr_stat5I {g : zt_G} {μ : zt_M} {pc : Nat} {ls : List (Option zv_A)} {st : List zv_A} {M : zm_M} {Q : Option zv_A → zm_M → Prop} {own : String} {ix : Nat} {y : MethodName} {ν : zt_M} {a1 a2 a3 a4 a5 : zv_A} (hown : μ.1 = own) (hV : zt_X own ix y ν 5) (hL : zt_L μ ν = true) (hw : Nat.ble (zv_w st) 8 = true) (hd : decode μ.2.1 pc = .ok (.invokestatic ix, 3)) (hK : zc_K g y ν [a1, a2, a3, a4, a5] M (zq_I (fun r M2 => zc_Z g μ (pc + 3) ls (zv_i r :: st) M2 Q))) : zc_Z g μ pc ls (a5 :: a4 :: a3 :: a2 :: a1 :: st) M Q := by
  refine zr_stat (As := [a1, a2, a3, a4, a5]) (rest := st) hown hV hL rfl hw hd rfl (hK.mono ?_)
  intro v M2 h
  rcases v with _ | z | z | z
  all_goals first | exact h | exact absurd h (fun x => x)
theorem zr_stat5L {g : zt_G} {μ : zt_M} {pc : Nat} {ls : List (Option zv_A)} {st : List zv_A} {M : zm_M} {Q : Option zv_A → zm_M → Prop} {own : String} {ix : Nat} {y : MethodName} {ν : zt_M} {a1 a2 a3 a4 a5 : zv_A} (hown : μ.1 = own) (hV : zt_X own ix y ν 5) (hL : zt_L μ ν = true) (hw : Nat.ble (zv_w st) 8 = true) (hd : decode μ.2.1 pc = .ok (.invokestatic ix, 3)) (hK : zc_K g y ν [a1, a2, a3, a4, a5] M (zq_L (fun r M2 => zc_Z g μ (pc + 3) ls (zv_l r :: st) M2 Q))) : zc_Z g μ pc ls (a5 :: a4 :: a3 :: a2 :: a1 :: st) M Q := by
  refine zr_stat (As := [a1, a2, a3, a4, a5]) (rest := st) hown hV hL rfl hw hd rfl (hK.mono ?_)
  intro v M2 h
  rcases v with _ | z | z | z
  all_goals first | exact h | exact absurd h (fun x => x)
theorem zr_stat5V {g : zt_G} {μ : zt_M} {pc : Nat} {ls : List (Option zv_A)} {st : List zv_A} {M : zm_M} {Q : Option zv_A → zm_M → Prop} {own : String} {ix : Nat} {y : MethodName} {ν : zt_M} {a1 a2 a3 a4 a5 : zv_A} (hown : μ.1 = own) (hV : zt_X own ix y ν 5) (hL : zt_L μ ν = true) (hw : Nat.ble (zv_w st) 8 = true) (hd : decode μ.2.1 pc = .ok (.invokestatic ix, 3)) (hK : zc_K g y ν [a1, a2, a3, a4, a5] M (zq_V (fun M2 => zc_Z g μ (pc + 3) ls st M2 Q))) : zc_Z g μ pc ls (a5 :: a4 :: a3 :: a2 :: a1 :: st) M Q := by
  refine zr_stat (As := [a1, a2, a3, a4, a5]) (rest := st) hown hV hL rfl hw hd rfl (hK.mono ?_)
  intro v M2 h
  rcases v with _ | z | z | z
  all_goals first | exact h | exact absurd h (fun x => x)
theorem zr_nest1I {g : zt_G} {μ : zt_M} {pc : Nat} {ls : List (Option zv_A)} {st : List zv_A} {M : zm_M} {Q : Option zv_A → zm_M → Prop} {own : String} {ix : Nat} {y : MethodName} {ν : zt_M} {a1 : zv_A} (hown : μ.1 = own) (hV : zt_N own ix y ν 1) (hL : zt_L μ ν = true) (hw : Nat.ble (zv_w st) 8 = true) (hd : decode μ.2.1 pc = .ok (.invokestatic ix, 3)) (hK : zc_K g y ν [a1] M (zq_I (fun r M2 => zc_Z g μ (pc + 3) ls (zv_i r :: st) M2 Q))) : zc_Z g μ pc ls (a1 :: st) M Q := by
  refine zr_nest (As := [a1]) (rest := st) hown hV hL rfl hw hd rfl (hK.mono ?_)
  intro v M2 h
  rcases v with _ | z | z | z
  all_goals first | exact h | exact absurd h (fun x => x)
theorem zr_nest1L {g : zt_G} {μ : zt_M} {pc : Nat} {ls : List (Option zv_A)} {st : List zv_A} {M : zm_M} {Q : Option zv_A → zm_M → Prop} {own : String} {ix : Nat} {y : MethodName} {ν : zt_M} {a1 : zv_A} (hown : μ.1 = own) (hV : zt_N own ix y ν 1) (hL : zt_L μ ν = true) (hw : Nat.ble (zv_w st) 8 = true) (hd : decode μ.2.1 pc = .ok (.invokestatic ix, 3)) (hK : zc_K g y ν [a1] M (zq_L (fun r M2 => zc_Z g μ (pc + 3) ls (zv_l r :: st) M2 Q))) : zc_Z g μ pc ls (a1 :: st) M Q := by
  refine zr_nest (As := [a1]) (rest := st) hown hV hL rfl hw hd rfl (hK.mono ?_)
  intro v M2 h
  rcases v with _ | z | z | z
  all_goals first | exact h | exact absurd h (fun x => x)
theorem zr_nest1V {g : zt_G} {μ : zt_M} {pc : Nat} {ls : List (Option zv_A)} {st : List zv_A} {M : zm_M} {Q : Option zv_A → zm_M → Prop} {own : String} {ix : Nat} {y : MethodName} {ν : zt_M} {a1 : zv_A} (hown : μ.1 = own) (hV : zt_N own ix y ν 1) (hL : zt_L μ ν = true) (hw : Nat.ble (zv_w st) 8 = true) (hd : decode μ.2.1 pc = .ok (.invokestatic ix, 3)) (hK : zc_K g y ν [a1] M (zq_V (fun M2 => zc_Z g μ (pc + 3) ls st M2 Q))) : zc_Z g μ pc ls (a1 :: st) M Q := by
  refine zr_nest (As := [a1]) (rest := st) hown hV hL rfl hw hd rfl (hK.mono ?_)
  intro v M2 h
  rcases v with _ | z | z | z
  all_goals first | exact h | exact absurd h (fun x => x)
theorem zr_mabs {g : zt_G} {μ : zt_M} {pc : Nat} {ls : List (Option zv_A)} {st : List zv_A} {M : zm_M} {Q : Option zv_A → zm_M → Prop} {own : String} {ix : Nat} {a : Int} (hown : μ.1 = own) (hw : ∀ w ∈ [Cond.methodLink own ix Lib.Math.abs.name, Cond.static Lib.Math.abs.name, Cond.initialized "java/lang/Math", Cond.code Lib.Math.abs.name Lib.Math.abs.code 1 (some .int)], w ∈ zt_tb) (hr : (Nat.ble 1 μ.2.2.2.2.1.frames && Nat.ble (zv_w st + 13) μ.2.2.2.2.1.locals) = true) (hd : decode μ.2.1 pc = .ok (.invokestatic ix, 3)) (k : zc_Z g μ (pc + 3) ls (zv_i (if 0 ≤ zw a then a else 0 - a) :: st) M Q) : zc_Z g μ pc ls (zv_i a :: st) M Q := by
  intro p e s m args below meth c Qf H locs la C hf hP hS hl
  subst hown
  rw [Bool.and_eq_true] at hr
  have hts := C.2.2.2.2.1
  have k2 := k p e s m args below meth c Qf H locs la C hf hP hS hl
  have e1 : Int32.ofInt (if 0 ≤ zw a then a else 0 - a) = if 0 ≤ Int32.ofInt a then Int32.ofInt a else 0 - Int32.ofInt a := by
    have z0 : zw 0 = 0 := by decide
    rw [zw_0]
    simp only [zw_le, z0]
    split
    · rfl
    · rw [Int32.ofInt_sub]
  rw [show (zv_i (if 0 ≤ zw a then a else 0 - a) :: st).map (zv_c g) = .int (Int32.ofInt (if 0 ≤ zw a then a else 0 - a)) :: st.map (zv_c g) from rfl, e1] at k2
  exact va_mabs C.1 C.2.1 (by rw [C.2.2.1]; exact hl.1.symm) C.2.2.2.1 (hts _ (hw _ (by simp))) (hts _ (hw _ (by simp))) (hts _ (hw _ (by simp))) (hts _ (hw _ (by simp))) (Nat.le_of_ble_eq_true hr.1) (by rw [zv_w_eq]; exact Nat.le_of_ble_eq_true hr.2) C.2.2.2.2.2.2.1 C.2.2.2.2.2.2.2 hd k2
theorem zr_mmin {g : zt_G} {μ : zt_M} {pc : Nat} {ls : List (Option zv_A)} {st : List zv_A} {M : zm_M} {Q : Option zv_A → zm_M → Prop} {own : String} {ix : Nat} {a b : Int} (hown : μ.1 = own) (hw : ∀ w ∈ [Cond.methodLink own ix Lib.Math.min.name, Cond.static Lib.Math.min.name, Cond.initialized "java/lang/Math", Cond.code Lib.Math.min.name Lib.Math.min.code 2 (some .int)], w ∈ zt_tb) (hr : (Nat.ble 1 μ.2.2.2.2.1.frames && Nat.ble (zv_w st + 13) μ.2.2.2.2.1.locals) = true) (hd : decode μ.2.1 pc = .ok (.invokestatic ix, 3)) (k : zc_Z g μ (pc + 3) ls (zv_i (if zw b < zw a then b else a) :: st) M Q) : zc_Z g μ pc ls (zv_i b :: zv_i a :: st) M Q := by
  intro p e s m args below meth c Qf H locs la C hf hP hS hl
  subst hown
  rw [Bool.and_eq_true] at hr
  have hts := C.2.2.2.2.1
  have k2 := k p e s m args below meth c Qf H locs la C hf hP hS hl
  have e1 : Int32.ofInt (if zw b < zw a then b else a) = if Int32.ofInt b < Int32.ofInt a then Int32.ofInt b else Int32.ofInt a := by
    simp only [zw_lt]
    split <;> rfl
  rw [show (zv_i (if zw b < zw a then b else a) :: st).map (zv_c g) = .int (Int32.ofInt (if zw b < zw a then b else a)) :: st.map (zv_c g) from rfl, e1] at k2
  exact va_mmin C.1 C.2.1 (by rw [C.2.2.1]; exact hl.1.symm) C.2.2.2.1 (hts _ (hw _ (by simp))) (hts _ (hw _ (by simp))) (hts _ (hw _ (by simp))) (hts _ (hw _ (by simp))) (Nat.le_of_ble_eq_true hr.1) (by rw [zv_w_eq]; exact Nat.le_of_ble_eq_true hr.2) C.2.2.2.2.2.2.1 C.2.2.2.2.2.2.2 hd k2
theorem zr_mmax {g : zt_G} {μ : zt_M} {pc : Nat} {ls : List (Option zv_A)} {st : List zv_A} {M : zm_M} {Q : Option zv_A → zm_M → Prop} {own : String} {ix : Nat} {a b : Int} (hown : μ.1 = own) (hw : ∀ w ∈ [Cond.methodLink own ix Lib.Math.max.name, Cond.static Lib.Math.max.name, Cond.initialized "java/lang/Math", Cond.code Lib.Math.max.name Lib.Math.max.code 2 (some .int)], w ∈ zt_tb) (hr : (Nat.ble 1 μ.2.2.2.2.1.frames && Nat.ble (zv_w st + 13) μ.2.2.2.2.1.locals) = true) (hd : decode μ.2.1 pc = .ok (.invokestatic ix, 3)) (k : zc_Z g μ (pc + 3) ls (zv_i (if zw a < zw b then b else a) :: st) M Q) : zc_Z g μ pc ls (zv_i b :: zv_i a :: st) M Q := by
  intro p e s m args below meth c Qf H locs la C hf hP hS hl
  subst hown
  rw [Bool.and_eq_true] at hr
  have hts := C.2.2.2.2.1
  have k2 := k p e s m args below meth c Qf H locs la C hf hP hS hl
  have e1 : Int32.ofInt (if zw a < zw b then b else a) = if Int32.ofInt a < Int32.ofInt b then Int32.ofInt b else Int32.ofInt a := by
    simp only [zw_lt]
    split <;> rfl
  rw [show (zv_i (if zw a < zw b then b else a) :: st).map (zv_c g) = .int (Int32.ofInt (if zw a < zw b then b else a)) :: st.map (zv_c g) from rfl, e1] at k2
  exact va_mmax C.1 C.2.1 (by rw [C.2.2.1]; exact hl.1.symm) C.2.2.2.1 (hts _ (hw _ (by simp))) (hts _ (hw _ (by simp))) (hts _ (hw _ (by simp))) (hts _ (hw _ (by simp))) (Nat.le_of_ble_eq_true hr.1) (by rw [zv_w_eq]; exact Nat.le_of_ble_eq_true hr.2) C.2.2.2.2.2.2.1 C.2.2.2.2.2.2.2 hd k2
theorem zr_copyi {g : zt_G} {μ : zt_M} {pc : Nat} {ls : List (Option zv_A)} {st : List zv_A} {M : zm_M} {Q : Option zv_A → zm_M → Prop} {own : String} {ix a b n0 n1 : Nat} {sp dp n : Int} (hown : μ.1 = own) (hw : ∀ w ∈ [Cond.methodLink own ix arraycopyName, Cond.native arraycopyName, Cond.static arraycopyName, Cond.initialized "java/lang/System"], w ∈ zt_tb) (ha : zl_lay[a]? = some (.inr (0, n0))) (hb : zl_lay[b]? = some (.inr (0, n1))) (h1 : 0 ≤ sp ∧ 0 ≤ dp ∧ 0 ≤ n) (h2 : sp + n ≤ n0 ∧ dp + n ≤ n1) (hr : (Nat.ble 1 μ.2.2.2.2.1.frames && Nat.ble (zv_w st + 18) μ.2.2.2.2.1.locals) = true) (hd : decode μ.2.1 pc = .ok (.invokestatic ix, 3)) (k : zc_Z g μ (pc + 3) ls st (zm_cpy M a sp b dp n) Q) : zc_Z g μ pc ls (zv_i n :: zv_i dp :: zv_r b :: zv_i sp :: zv_r a :: st) M Q := by
  intro p e s m args below meth c Qf H locs la C hf hP hS hl
  subst hown
  obtain ⟨h1a, h1b, h1c⟩ := h1
  obtain ⟨h2a, h2b⟩ := h2
  rw [Bool.and_eq_true] at hr
  have hts := C.2.2.2.2.1
  have l0 := zl_len ha
  have l1 := zl_len hb
  have nn : ∀ z : Int, 0 ≤ z → z ≤ 4096 → ¬ Int32.ofInt z < 0 := by
    intro z hz hz2
    rw [zw_0, zw_lt, zw_id (by omega) (by omega), zw_id (by omega) (by omega)]
    omega
  have c1 : (Int32.ofInt sp).toNatClampNeg = sp.toNat := zw_cl h1a (by omega)
  have c2 : (Int32.ofInt dp).toNatClampNeg = dp.toNat := zw_cl h1b (by omega)
  have c3 : (Int32.ofInt n).toNatClampNeg = n.toNat := zw_cl h1c (by omega)
  refine va_copyi C.1 C.2.1 (by rw [C.2.2.1]; exact hl.1.symm) C.2.2.2.1 (hts _ (hw _ (by simp))) (hts _ (hw _ (by simp))) (hts _ (hw _ (by simp))) (hts _ (hw _ (by simp))) C.2.2.2.2.2.1.2.2.2.2.2.2 hP (zl_D M C.2.2.2.2.2.1.2.2.2.2.2.1) hS a b 0 0 (by rw [zl_w_at g M (zl_lt ha), zl_ct_a ha]; rfl) (by rw [zl_w_at g M (zl_lt hb), zl_ct_a hb]; rfl) rfl rfl rfl (nn _ h1a (by omega)) (nn _ h1b (by omega)) (nn _ h1c (by omega)) (by rw [c1, c3]; omega) (by rw [c2, c3]; omega) (fun _ _ => rfl) (Nat.le_of_ble_eq_true hr.1) (by rw [zv_w_eq]; exact Nat.le_of_ble_eq_true hr.2) hd (fun H1 locs1 hP1 hD1 hS1 => ?_)
  rw [c1, c2, c3] at hP1
  have hws := zl_w_set (g := g) (M := M) (M2 := zm_cpy M a sp b dp n) (k := b) (zl_lt hb) (zl_ct_a hb) (fun x hx i => by unfold zm_cpy; rw [if_neg (fun y => hx y.1)])
  have he : zl_av (zm_cpy M a sp b dp n) b 0 = .inl (va_cpy (fun j => Int32.ofInt (M a (j : Int))) (fun j => Int32.ofInt (M b (j : Int))) sp.toNat dp.toNat n.toNat) := by
    unfold zl_av
    simp only []
    congr 1
    funext j
    unfold va_cpy zm_cpy
    by_cases hj : dp.toNat ≤ j ∧ j < dp.toNat + n.toNat
    · rw [if_pos hj, if_pos ⟨rfl, by omega, by omega⟩]
      congr 2
      omega
    · rw [if_neg hj, if_neg (fun x => hj ⟨by omega, by omega⟩)]
  rw [he] at hws
  have hP2 : va_P (zg_D g) zl_cl (zl_w g (zm_cpy M a sp b dp n)) H1 := by
    rw [← hws]
    exact hP1
  exact k p e s m args below meth c Qf H1 locs1 la C hf hP2 hS1 hl
theorem zr_copyl {g : zt_G} {μ : zt_M} {pc : Nat} {ls : List (Option zv_A)} {st : List zv_A} {M : zm_M} {Q : Option zv_A → zm_M → Prop} {own : String} {ix a b n0 n1 : Nat} {sp dp n : Int} (hown : μ.1 = own) (hw : ∀ w ∈ [Cond.methodLink own ix arraycopyName, Cond.native arraycopyName, Cond.static arraycopyName, Cond.initialized "java/lang/System"], w ∈ zt_tb) (ha : zl_lay[a]? = some (.inr (1, n0))) (hb : zl_lay[b]? = some (.inr (1, n1))) (h1 : 0 ≤ sp ∧ 0 ≤ dp ∧ 0 ≤ n) (h2 : sp + n ≤ n0 ∧ dp + n ≤ n1) (hr : (Nat.ble 1 μ.2.2.2.2.1.frames && Nat.ble (zv_w st + 18) μ.2.2.2.2.1.locals) = true) (hd : decode μ.2.1 pc = .ok (.invokestatic ix, 3)) (k : zc_Z g μ (pc + 3) ls st (zm_cpy M a sp b dp n) Q) : zc_Z g μ pc ls (zv_i n :: zv_i dp :: zv_r b :: zv_i sp :: zv_r a :: st) M Q := by
  intro p e s m args below meth c Qf H locs la C hf hP hS hl
  subst hown
  obtain ⟨h1a, h1b, h1c⟩ := h1
  obtain ⟨h2a, h2b⟩ := h2
  rw [Bool.and_eq_true] at hr
  have hts := C.2.2.2.2.1
  have l0 := zl_len ha
  have l1 := zl_len hb
  have nn : ∀ z : Int, 0 ≤ z → z ≤ 4096 → ¬ Int32.ofInt z < 0 := by
    intro z hz hz2
    rw [zw_0, zw_lt, zw_id (by omega) (by omega), zw_id (by omega) (by omega)]
    omega
  have c1 : (Int32.ofInt sp).toNatClampNeg = sp.toNat := zw_cl h1a (by omega)
  have c2 : (Int32.ofInt dp).toNatClampNeg = dp.toNat := zw_cl h1b (by omega)
  have c3 : (Int32.ofInt n).toNatClampNeg = n.toNat := zw_cl h1c (by omega)
  refine va_copyl C.1 C.2.1 (by rw [C.2.2.1]; exact hl.1.symm) C.2.2.2.1 (hts _ (hw _ (by simp))) (hts _ (hw _ (by simp))) (hts _ (hw _ (by simp))) (hts _ (hw _ (by simp))) C.2.2.2.2.2.1.2.2.2.2.2.2 hP (zl_D M C.2.2.2.2.2.1.2.2.2.2.2.1) hS a b 1 1 (by rw [zl_w_at g M (zl_lt ha), zl_ct_a ha]; rfl) (by rw [zl_w_at g M (zl_lt hb), zl_ct_a hb]; rfl) rfl rfl rfl (nn _ h1a (by omega)) (nn _ h1b (by omega)) (nn _ h1c (by omega)) (by rw [c1, c3]; omega) (by rw [c2, c3]; omega) (fun _ _ => rfl) (Nat.le_of_ble_eq_true hr.1) (by rw [zv_w_eq]; exact Nat.le_of_ble_eq_true hr.2) hd (fun H1 locs1 hP1 hD1 hS1 => ?_)
  rw [c1, c2, c3] at hP1
  have hws := zl_w_set (g := g) (M := M) (M2 := zm_cpy M a sp b dp n) (k := b) (zl_lt hb) (zl_ct_a hb) (fun x hx i => by unfold zm_cpy; rw [if_neg (fun y => hx y.1)])
  have he : zl_av (zm_cpy M a sp b dp n) b 1 = .inr (.inl (va_cpy (fun j => Int64.ofInt (M a (j : Int))) (fun j => Int64.ofInt (M b (j : Int))) sp.toNat dp.toNat n.toNat)) := by
    unfold zl_av
    simp only []
    congr 1
    congr 1
    funext j
    unfold va_cpy zm_cpy
    by_cases hj : dp.toNat ≤ j ∧ j < dp.toNat + n.toNat
    · rw [if_pos hj, if_pos ⟨rfl, by omega, by omega⟩]
      congr 2
      omega
    · rw [if_neg hj, if_neg (fun x => hj ⟨by omega, by omega⟩)]
  rw [he] at hws
  have hP2 : va_P (zg_D g) zl_cl (zl_w g (zm_cpy M a sp b dp n)) H1 := by
    rw [← hws]
    exact hP1
  exact k p e s m args below meth c Qf H1 locs1 la C hf hP2 hS1 hl
def zk_row (a : Int) : Int := if a = 0 then 1 else if a = 1 then 1000 else if a = 2 then 1000000 else if a = 3 then 1000000000 else 1000000000000
theorem zr_gets {g : zt_G} {μ : zt_M} {pc : Nat} {ls : List (Option zv_A)} {st : List zv_A} {M : zm_M} {Q : Option zv_A → zm_M → Prop} {ix : Nat} (hw : Cond.fieldLink "ChalkTramps" ix "ChalkTramps" "DOING_ROWS" "[J" ∈ zt_tb) (hown : μ.1 = "ChalkTramps") (hd : decode μ.2.1 pc = .ok (.getstatic ix, 3)) (k : zc_Z g μ (pc + 3) ls (zv_r 64 :: st) M Q) : zc_Z g μ pc ls st M Q := by
  intro p e s m args below meth c Qf H locs la C hf hP hS hl
  have ho := C.2.2.2.1
  rw [hown] at ho
  exact va_gets C.1 C.2.1 C.2.2.2.2.2.1.2.1 hS ho (C.2.2.2.2.1 _ hw) (fun _ h => h) hd (k p e s m args below meth c Qf H locs la C hf hP hS hl)
theorem zr_rowld {g : zt_G} {μ : zt_M} {pc : Nat} {ls : List (Option zv_A)} {st : List zv_A} {M : zm_M} {Q : Option zv_A → zm_M → Prop} {a : Int} (hi : 0 ≤ a ∧ a < 5) (hd : decode μ.2.1 pc = .ok (.laload, 1)) (k : zc_Z g μ (pc + 1) ls (zv_l (zk_row a) :: st) M Q) : zc_Z g μ pc ls (zv_i a :: zv_r 64 :: st) M Q := by
  intro p e s m args below meth c Qf H locs la C hf hP hS hl
  refine va_tl C.1 C.2.1 C.2.2.2.2.2.1.2.2.1 hS (zw_in (n := 5) hi.1 hi.2 (by decide)) (v := .long (Int64.ofInt (zk_row a))) ?_ hd (k p e s m args below meth c Qf H locs la C hf hP hS hl)
  rw [zw_cl hi.1 (by omega)]
  obtain ⟨h0, h1⟩ := hi
  rcases (by omega : a = 0 ∨ a = 1 ∨ a = 2 ∨ a = 3 ∨ a = 4) with rfl | rfl | rfl | rfl | rfl <;> rfl
def zg_s (g : zt_G) (a : Int) : Int := (zg_x g a.toNat).toInt
theorem zr_scr {g : zt_G} {μ : zt_M} {pc : Nat} {ls : List (Option zv_A)} {st : List zv_A} {M : zm_M} {Q : Option zv_A → zm_M → Prop} {a : Int} (hL : zg_L g ≤ 4096) (hi : 0 ≤ a ∧ a < zg_L g) (hd : decode μ.2.1 pc = .ok (.iaload, 1)) (k : zc_Z g μ (pc + 1) ls (zv_i (zg_s g a) :: st) M Q) : zc_Z g μ pc ls (zv_i a :: zv_r 63 :: st) M Q := by
  intro p e s m args below meth c Qf H locs la C hf hP hS hl
  obtain ⟨-, -, -, hX, ⟨hb1, hb2⟩, -⟩ := C.2.2.2.2.2.1
  refine va_sld C.1 C.2.1 hX hb1 hb2 hS (zw_in hi.1 hi.2 hL) hd ?_
  have k2 := k p e s m args below meth c Qf H locs la C hf hP hS hl
  rw [show (zv_i (zg_s g a) :: st).map (zv_c g) = .int (Int32.ofInt (zg_s g a)) :: st.map (zv_c g) from rfl, show Int32.ofInt (zg_s g a) = zg_x g a.toNat from Int32.ofInt_toInt _] at k2
  rw [zw_cl hi.1 (by omega)]
  exact k2
theorem zr_slen {g : zt_G} {μ : zt_M} {pc : Nat} {ls : List (Option zv_A)} {st : List zv_A} {M : zm_M} {Q : Option zv_A → zm_M → Prop} (hd : decode μ.2.1 pc = .ok (.arraylength, 1)) (k : zc_Z g μ (pc + 1) ls (zv_i (zg_L g) :: st) M Q) : zc_Z g μ pc ls (zv_r 63 :: st) M Q := by
  intro p e s m args below meth c Qf H locs la C hf hP hS hl
  obtain ⟨-, -, -, hX, ⟨hb1, hb2⟩, -⟩ := C.2.2.2.2.2.1
  refine va_slen C.1 C.2.1 hX hb1 hb2 hS hd ?_
  have k2 := k p e s m args below meth c Qf H locs la C hf hP hS hl
  rw [show (zv_i (zg_L g) :: st).map (zv_c g) = .int (Int32.ofInt (zg_L g)) :: st.map (zv_c g) from rfl, Int32.ofInt_eq_ofNat] at k2
  exact k2
def zl_ushr (a b : Int) : Int := ((Int64.ofInt a).toUInt64 >>> ((Int32.ofInt b).toInt64.toUInt64 &&& Int64.toUInt64 63)).toInt64.toInt
theorem zr_lshl {g : zt_G} {μ : zt_M} {pc : Nat} {ls : List (Option zv_A)} {st : List zv_A} {M : zm_M} {Q : Option zv_A → zm_M → Prop} {a b : Int} (hd : decode μ.2.1 pc = .ok (.lshl, 1)) (k : zc_Z g μ (pc + 1) ls (zv_l (zl_shl a b) :: st) M Q) : zc_Z g μ pc ls (zv_i b :: zv_l a :: st) M Q := by
  intro p e s m args below meth c Qf H locs la C hf hP hS hl
  refine lv_lshl C.1 C.2.1 hd (v := Int64.ofInt (zl_shl a b)) ?_ (k p e s m args below meth c Qf H locs la C hf hP hS hl)
  unfold zl_shl
  rw [Int64.ofInt_toInt]
theorem zr_lshr {g : zt_G} {μ : zt_M} {pc : Nat} {ls : List (Option zv_A)} {st : List zv_A} {M : zm_M} {Q : Option zv_A → zm_M → Prop} {a b : Int} (hd : decode μ.2.1 pc = .ok (.lshr, 1)) (k : zc_Z g μ (pc + 1) ls (zv_l (zl_shr a b) :: st) M Q) : zc_Z g μ pc ls (zv_i b :: zv_l a :: st) M Q := by
  intro p e s m args below meth c Qf H locs la C hf hP hS hl
  refine lv_lshr C.1 C.2.1 hd (v := Int64.ofInt (zl_shr a b)) ?_ (k p e s m args below meth c Qf H locs la C hf hP hS hl)
  unfold zl_shr
  rw [Int64.ofInt_toInt]
theorem zr_lushr {g : zt_G} {μ : zt_M} {pc : Nat} {ls : List (Option zv_A)} {st : List zv_A} {M : zm_M} {Q : Option zv_A → zm_M → Prop} {a b : Int} (hd : decode μ.2.1 pc = .ok (.lushr, 1)) (k : zc_Z g μ (pc + 1) ls (zv_l (zl_ushr a b) :: st) M Q) : zc_Z g μ pc ls (zv_i b :: zv_l a :: st) M Q := by
  intro p e s m args below meth c Qf H locs la C hf hP hS hl
  refine lv_lushr C.1 C.2.1 hd (v := Int64.ofInt (zl_ushr a b)) ?_ (k p e s m args below meth c Qf H locs la C hf hP hS hl)
  unfold zl_ushr
  rw [Int64.ofInt_toInt]
