/-! THE CLAIM OUT OF ONE WALK OF THE LAW'S BODY. Your part is whole_start (and what it stands on); all else here is the same for every law, but numbers. -/
def R_law : String := "ChalkTrampsLaw"
def lw_P (b : Addr) (xs : List Int32) (args : Array Value) (s : State) : Prop := args = #[.ref b] ∧ s.IntsAt b xs ∧ xs.length ≤ 2560 ∧ (Jvm.Cond.and given_1 narrow_1).before args s = true
def lw_Q (_ : Array Value) (s : State) (o : Outcome) (t : State) : Prop := o = .returned (some (.int 1)) ∧ Framed s o t [] 63 2136
def lw_Z (below : List Frame) (a : Array Value) (s : State) : State → Prop := fun t => ∃ o, t.status = .running ∧ Ended t below o ∧ lw_Q a s o t
/-- the law's own end, with 1 on the stack, nothing written that was there before, its room as the claim has it -/
theorem lw_ret {p : Program} {l : Launch} {e : Env} {s : State} {m : MethodId} {below : List Frame} {meth : Method} {c : Code} {b : Nat} (hx : p.tables.exec = Jvm.exec) (hb : c.code = code) (hr : meth.sig.returnType = ret) (hlocks : meth.locks = false) {pc : Nat} {H : Heap} {ls : Array Slot} (hdg : decode code pc = .ok (.ireturn, 1)) : W p l e room_1 s m #[Value.ref b] below meth c H [] 63 2136 (lw_Z below #[Value.ref b] s) (F0 m pc ls [.int 1]) := by
  intro T hT X
  obtain ⟨fs, hret, hrun, hended, hW, hframe⟩ := X.leave (v := some (.int 1)) (hlocks := hlocks) (fun h => by rw [hr] at h; cases h)
  have hmeth' : T.vm.method? m = some meth := X.method'
  refine ⟨T.setFrames fs, ?_, .returned (some (.int 1)), hrun, hended, rfl, ⟨_, rfl⟩, hW, hframe⟩
  jvm_step X.here [X.here.top, hx, hb, hdg, hmeth', hr, ret, narrow_b1]
  (try refine ⟨rfl, ?_⟩); (try refine ⟨rfl, ?_⟩)
  first | (intro acts; rw [hret _ acts rfl rfl rfl]) | rw [hret _ _ rfl rfl rfl]
  exact Steps.refl _
/-- what holds at the law's entry: the machine, the code, the tables' words (any of lw_tbl by 'hts w (by decide +kernel)'), the script of L ints xs at the cell b, what the Statement gives of the start (any of its parts by flat_of_before) -/
def lw_At (p : Program) (s : State) (m : MethodId) (meth : Method) (c : Code) (b L : Nat) (xs : Nat → Int32) : Prop :=
  p.tables.exec = Jvm.exec ∧ c.code = code ∧ meth.sig.returnType = ret ∧ c.maxLocals = 4 ∧ s.vm.findClass R_law = some m.cls ∧ (∀ w ∈ lw_tbl, w.before #[Value.ref b] s = true) ∧ va_X b L xs s s.heap ∧ b < s.heap.size ∧ meth.locks = false ∧ (Jvm.Cond.and given_1 narrow_1).before #[Value.ref b] s = true

/-- the memory at the start -/
def zM0 : zm_M := fun k i => if k = 42 ∧ i = 4 then -9 else if k = 43 ∧ i = 3 then -9 else 0
theorem zM0_0 {k : Nat} {i : Int} (h1 : ¬ (k = 42 ∧ i = 4)) (h2 : ¬ (k = 43 ∧ i = 3)) : zM0 k i = 0 := by
  unfold zM0
  rw [if_neg h1, if_neg h2]
def σ0 : Sg := ((0, fun _ => 0), lO, cO, (0, fun _ => cO), (fun _ => 0, fun _ => cO), (0, fun _ => 0, fun _ => 0), 0)
theorem SW_0 : SW σ0 := ⟨(by decide : (0 : Int) ≤ 0 ∧ (0 : Int) ≤ 48), fun i a b => absurd b (by show ¬ i < 0; omega), LW_0, ⟨CW_0, CZ_0⟩, ⟨(by decide : (0 : Int) ≤ 0 ∧ (0 : Int) ≤ 14), fun j a b => absurd b (by show ¬ j < 0; omega)⟩, fun s a b => ⟨Or.inl rfl, fun y => absurd (show (0 : Int) = 1 from y) (by decide)⟩, (by decide : (0 : Int) ≤ 0 ∧ (0 : Int) ≤ 6), fun e a b => absurd b (by show ¬ e < 0; omega)⟩
theorem msk00 (f : Int → Int) : msk 0 f = fun _ => 0 := funext fun i => if_neg (by omega)
theorem RX_0 : RX σ0 zM0 := by
  have z := fun (k : Nat) (i : Int) (h : ¬ (k = 42 ∧ i = 4)) (h2 : ¬ (k = 43 ∧ i = 3)) => zM0_0 h h2
  refine ⟨⟨z 1 1 (by omega) (by omega), fun i a b => absurd b (by show ¬ i < 0; omega)⟩, ?_, ?_, ⟨z 27 2 (by omega) (by omega), fun j a b => absurd b (by show ¬ j < 0; omega)⟩, fun s a b => ⟨z 33 s (by omega) (by omega), fun y => absurd (show (0 : Int) = 1 from y) (by decide)⟩, ⟨z 42 2 (by omega) (by omega), z 42 0 (by omega) (by omega), z 42 1 (by omega) (by omega)⟩, ?_⟩
  · show lvX zM0 13 = lO
    unfold lvX lO lyX
    rw [z 13 3 (by omega) (by omega), msk00, msk00]
    refine Prod.ext rfl (Prod.ext rfl (Prod.ext rfl ?_))
    funext g k
    exact if_neg (by omega)
  · show cvX zM0 17 = cO
    unfold cvX cO
    rw [z 17 5 (by omega) (by omega), msk00, msk00, msk00, msk00, z 17 4 (by omega) (by omega), z 17 6 (by omega) (by omega)]
  · rw [z 0 11 (by omega) (by omega)]
    rfl
theorem RM_0 : RM σ0 zM0 := by
  have z := fun (k : Nat) (i : Int) (h : ¬ (k = 42 ∧ i = 4)) (h2 : ¬ (k = 43 ∧ i = 3)) => zM0_0 h h2
  refine ⟨⟨z 46 15 (by omega) (by omega), fun i a b => absurd b (by show ¬ i < 0; omega)⟩, ?_, ?_, ⟨z 46 19 (by omega) (by omega), by rw [z 46 20 (by omega) (by omega)]; decide, fun j a b => absurd b (by show ¬ j < 0; omega)⟩, fun s a b => ⟨z 61 s (by omega) (by omega), fun y => absurd (show (0 : Int) = 1 from y) (by decide)⟩, ⟨z 46 25 (by omega) (by omega), fun e a b => absurd b (by show ¬ e < 0; omega)⟩, ?_, z 46 18 (by omega) (by omega)⟩
  · show lvM zM0 = lO
    unfold lvM lO
    rw [z 46 0 (by omega) (by omega), msk00, msk00]
    refine Prod.ext rfl (Prod.ext rfl (Prod.ext rfl ?_))
    funext g k
    exact if_neg (by omega)
  · show cvG zM0 51 (14 * 0) = cO
    unfold cvG cO
    rw [z 46 1 (by omega) (by omega), msk00, msk00, msk00, msk00, z 51 _ (by omega) (by omega), z 51 _ (by omega) (by omega)]
  · rw [z 46 28 (by omega) (by omega)]
    rfl
def zn_g (l : Launch) (D : va_G) (cc : ClassId × ClassId × ClassId) (q0 : Nat) (u : Nat → Nat) (q1 : Nat) (v : Nat → Nat) (b tr L : Nat) (xs : Nat → Int32) : zt_G := (l, D, cc, fun k => ([q0, u 0, u 1, u 2, u 3, u 4, u 5, u 6, u 7, u 8, u 9, u 10, u 11, u 12, u 13, u 14, u 15, u 16, u 17, u 18, u 19, u 20, u 21, u 22, u 23, u 24, u 25, u 26, u 27, u 28, u 29, u 30, u 31, u 32, u 33, u 34, u 35, u 36, u 37, u 38, u 39, u 40, u 41, u 42, u 43, u 44, q1, v 0, v 1, v 2, v 3, v 4, v 5, v 6, v 7, v 8, v 9, v 10, v 11, v 12, v 13, v 14, v 15, b, tr] : List Nat).getD k 0, L, xs)
set_option maxHeartbeats 4000000 in
set_option maxRecDepth 100000 in
theorem zn_w (l : Launch) (D : va_G) (cc : ClassId × ClassId × ClassId) (q0 : Nat) (u : Nat → Nat) (q1 : Nat) (v : Nat → Nat) (b tr L : Nat) (xs : Nat → Int32) : zl_w (zn_g l D cc q0 u q1 v b tr L xs) zM0 = zn_X10 cc q0 u ++ zn_X11 cc q1 v := by
  rfl
theorem nn_78 : Cond.methodLinkNest RX10 9 yX6_init "ChalkTramps" ∈ lw_tbl := List.mem_of_getElem? (i := 78) (by decide +kernel)
theorem nn_95 : Cond.methodLinkNest RX10 18 yX5_init "ChalkTramps" ∈ lw_tbl := List.mem_of_getElem? (i := 95) (by decide +kernel)
theorem nn_101 : Cond.methodLinkNest RX5 11 yX3_init "ChalkTramps" ∈ lw_tbl := List.mem_of_getElem? (i := 101) (by decide +kernel)
theorem nn_130 : Cond.methodLinkNest RX5 20 yX1_init "ChalkTramps" ∈ lw_tbl := List.mem_of_getElem? (i := 130) (by decide +kernel)
theorem nn_186 : Cond.methodLinkNest RX10 25 yX3_init "ChalkTramps" ∈ lw_tbl := List.mem_of_getElem? (i := 186) (by decide +kernel)
theorem nn_188 : Cond.methodLinkNest RX10 32 yX1_init "ChalkTramps" ∈ lw_tbl := List.mem_of_getElem? (i := 188) (by decide +kernel)
theorem nn_191 : Cond.methodLinkNest RX10 42 yX0_init "ChalkTramps" ∈ lw_tbl := List.mem_of_getElem? (i := 191) (by decide +kernel)
theorem nn_209 : Cond.methodLinkNest RX10 49 yX8_init "ChalkTramps" ∈ lw_tbl := List.mem_of_getElem? (i := 209) (by decide +kernel)
theorem nn_226 : Cond.methodLinkNest RX10 56 yX7_init "ChalkTramps" ∈ lw_tbl := List.mem_of_getElem? (i := 226) (by decide +kernel)
theorem nn_259 : Cond.methodLinkNest RX10 63 yX4_init "ChalkTramps" ∈ lw_tbl := List.mem_of_getElem? (i := 259) (by decide +kernel)
theorem nn_275 : Cond.methodLinkNest RX10 70 yX9_init "ChalkTramps" ∈ lw_tbl := List.mem_of_getElem? (i := 275) (by decide +kernel)
theorem nn_300 : Cond.methodLinkNest RX10 77 yX2_init "ChalkTramps" ∈ lw_tbl := List.mem_of_getElem? (i := 300) (by decide +kernel)
theorem nn_392 : Cond.methodLinkNest RX5 58 yX10_isPlace "ChalkTramps" ∈ lw_tbl := List.mem_of_getElem? (i := 392) (by decide +kernel)
theorem nn_522 : Cond.methodLinkNest RX1 59 yX10_appetiteOf "ChalkTramps" ∈ lw_tbl := List.mem_of_getElem? (i := 522) (by decide +kernel)
theorem nn_552 : Cond.methodLinkNest RX1 75 yX10_isPlace "ChalkTramps" ∈ lw_tbl := List.mem_of_getElem? (i := 552) (by decide +kernel)
theorem nn_724 : Cond.methodLinkNest RX9 32 yX10_appetiteOf "ChalkTramps" ∈ lw_tbl := List.mem_of_getElem? (i := 724) (by decide +kernel)
theorem nn_816 : Cond.methodLinkNest RX8 23 yX10_isSlot "ChalkTramps" ∈ lw_tbl := List.mem_of_getElem? (i := 816) (by decide +kernel)
theorem nn_init : ∀ q ∈ zn_n, Cond.methodLinkNest q.1 q.2.1 q.2.2 "ChalkTramps" ∈ lw_tbl := List.forall_mem_cons.mpr ⟨nn_78, List.forall_mem_cons.mpr ⟨nn_95, List.forall_mem_cons.mpr ⟨nn_101, List.forall_mem_cons.mpr ⟨nn_130, List.forall_mem_cons.mpr ⟨nn_186, List.forall_mem_cons.mpr ⟨nn_188, List.forall_mem_cons.mpr ⟨nn_191, List.forall_mem_cons.mpr ⟨nn_209, List.forall_mem_cons.mpr ⟨nn_226, List.forall_mem_cons.mpr ⟨nn_259, List.forall_mem_cons.mpr ⟨nn_275, List.forall_mem_cons.mpr ⟨nn_300, fun _ h => absurd h List.not_mem_nil⟩⟩⟩⟩⟩⟩⟩⟩⟩⟩⟩⟩
theorem nn_stat : ∀ q ∈ zk_nest, Cond.methodLinkNest q.1 q.2.1 q.2.2.1 q.2.2.2 ∈ lw_tbl := List.forall_mem_cons.mpr ⟨nn_392, List.forall_mem_cons.mpr ⟨nn_522, List.forall_mem_cons.mpr ⟨nn_552, List.forall_mem_cons.mpr ⟨nn_724, List.forall_mem_cons.mpr ⟨nn_816, fun _ h => absurd h List.not_mem_nil⟩⟩⟩⟩⟩
theorem nn_rows : Cond.laysStatic "ChalkTramps" "DOING_ROWS" "[J" ∈ lw_tbl := List.mem_of_getElem? (i := 678) (by decide +kernel)
theorem cw_69 : Cond.instantiable RX10 12 ∈ zt_tb := zt_ins [_] [69] (by decide +kernel) (by decide +kernel) _ (List.mem_singleton.mpr rfl)
theorem cw_842 : Cond.instantiable RX11 31 ∈ zt_tb := zt_ins [_] [842] (by decide +kernel) (by decide +kernel) _ (List.mem_singleton.mpr rfl)
theorem cw_68 : Cond.classLink RL 7 RX10 ∈ zt_tb := zt_ins [_] [68] (by decide +kernel) (by decide +kernel) _ (List.mem_singleton.mpr rfl)
theorem cw_53 : Cond.initialized RX10 ∈ zt_tb := zt_ins [_] [53] (by decide +kernel) (by decide +kernel) _ (List.mem_singleton.mpr rfl)
theorem cw_72 : Cond.code yX10_init cX10_init 1 none ∈ zt_tb := zt_ins [_] [72] (by decide +kernel) (by decide +kernel) _ (List.mem_singleton.mpr rfl)
theorem cw_71 : Cond.instanceMethod yX10_init ∈ zt_tb := zt_ins [_] [71] (by decide +kernel) (by decide +kernel) _ (List.mem_singleton.mpr rfl)
theorem cw_70 : Cond.methodLink RL 9 yX10_init ∈ zt_tb := zt_ins [_] [70] (by decide +kernel) (by decide +kernel) _ (List.mem_singleton.mpr rfl)
theorem cw_841 : Cond.classLink RL 10 RX11 ∈ zt_tb := zt_ins [_] [841] (by decide +kernel) (by decide +kernel) _ (List.mem_singleton.mpr rfl)
theorem cw_64 : Cond.initialized RX11 ∈ zt_tb := zt_ins [_] [64] (by decide +kernel) (by decide +kernel) _ (List.mem_singleton.mpr rfl)
theorem cw_845 : Cond.code yX11_init cX11_init 1 none ∈ zt_tb := zt_ins [_] [845] (by decide +kernel) (by decide +kernel) _ (List.mem_singleton.mpr rfl)
theorem cw_844 : Cond.instanceMethod yX11_init ∈ zt_tb := zt_ins [_] [844] (by decide +kernel) (by decide +kernel) _ (List.mem_singleton.mpr rfl)
theorem cw_843 : Cond.methodLink RL 12 yX11_init ∈ zt_tb := zt_ins [_] [843] (by decide +kernel) (by decide +kernel) _ (List.mem_singleton.mpr rfl)
set_option maxHeartbeats 8000000 in
set_option maxRecDepth 100000 in
theorem whole_start {p : Program} {e : Env} {s : State} {m : MethodId} {below : List Frame} {meth : Method} {c : Code} (l : Launch) (hflags : l.flags = flags0) {b L : Nat} {xs : Nat → Int32} (hL : L ≤ 2560) (C0 : lw_At p s m meth c b L xs) : W p l e room_1 s m #[Value.ref b] below meth c s.heap [] 0 0 (lw_Z below #[Value.ref b] s) (entryFrame m ([Value.ref b] : List Value).toArray 4) := by
  obtain ⟨hx, hb, hr, hml, hown, hts0, hX, hbl, hlocks, hgv⟩ := id C0
  have hts : ∀ w ∈ zt_tb, w.before #[Value.ref b] s = true := fun w hw => hts0 w (List.mem_filter.mp hw).1
  have hgf := flat_of_before _ hgv
  have hA : ∀ q : Nat, s.heap.size ≤ q → (fun q : Nat => s.heap.size ≤ q) q := fun _ h => h
  have hex : ∀ k : Nat, ∃ x : ClassId × (Nat → Nat), ∀ q, zl_cl[k]? = some q → u_Kn s q.1 q.2.1 q.2.2 x.1 x.2 := by
    intro k
    match k with
    | 0 =>
      obtain ⟨a, d, h⟩ := u_known (C := RX0) (T := TX0) (N := 3) (n := 3) hts inqX0 (hts (.instantiable RX0 3) cw_190)
      exact ⟨(a, d), fun q hq => by cases hq; exact h⟩
    | 1 =>
      obtain ⟨a, d, h⟩ := u_known (C := RX1) (T := TX1) (N := 7) (n := 7) hts inqX1 (hts (.instantiable RX1 7) cw_129)
      exact ⟨(a, d), fun q hq => by cases hq; exact h⟩
    | 2 =>
      obtain ⟨a, d, h⟩ := u_known (C := RX2) (T := TX2) (N := 4) (n := 4) hts inqX2 (hts (.instantiable RX2 4) cw_299)
      exact ⟨(a, d), fun q hq => by cases hq; exact h⟩
    | 3 =>
      obtain ⟨a, d, h⟩ := u_known (C := RX3) (T := TX3) (N := 4) (n := 4) hts inqX3 (hts (.instantiable RX3 4) cw_100)
      exact ⟨(a, d), fun q hq => by cases hq; exact h⟩
    | 4 =>
      obtain ⟨a, d, h⟩ := u_known (C := RX4) (T := TX4) (N := 3) (n := 3) hts inqX4 (hts (.instantiable RX4 3) cw_258)
      exact ⟨(a, d), fun q hq => by cases hq; exact h⟩
    | 5 =>
      obtain ⟨a, d, h⟩ := u_known (C := RX5) (T := TX5) (N := 4) (n := 4) hts inqX5 (hts (.instantiable RX5 4) cw_94)
      exact ⟨(a, d), fun q hq => by cases hq; exact h⟩
    | 6 =>
      obtain ⟨a, d, h⟩ := u_known (C := RX6) (T := TX6) (N := 2) (n := 2) hts inqX6 (hts (.instantiable RX6 2) cw_77)
      exact ⟨(a, d), fun q hq => by cases hq; exact h⟩
    | 7 =>
      obtain ⟨a, d, h⟩ := u_known (C := RX7) (T := TX7) (N := 8) (n := 8) hts inqX7 (hts (.instantiable RX7 8) cw_225)
      exact ⟨(a, d), fun q hq => by cases hq; exact h⟩
    | 8 =>
      obtain ⟨a, d, h⟩ := u_known (C := RX8) (T := TX8) (N := 3) (n := 3) hts inqX8 (hts (.instantiable RX8 3) cw_208)
      exact ⟨(a, d), fun q hq => by cases hq; exact h⟩
    | 9 =>
      obtain ⟨a, d, h⟩ := u_known (C := RX9) (T := TX9) (N := 5) (n := 5) hts inqX9 (hts (.instantiable RX9 5) cw_274)
      exact ⟨(a, d), fun q hq => by cases hq; exact h⟩
    | 10 =>
      obtain ⟨a, d, h⟩ := u_known (C := RX10) (T := TX10) (N := 12) (n := 12) hts inqX10 (hts (.instantiable RX10 12) cw_69)
      exact ⟨(a, d), fun q hq => by cases hq; exact h⟩
    | 11 =>
      obtain ⟨a, d, h⟩ := u_known (C := RX11) (T := TX11) (N := 31) (n := 31) hts inqX11 (hts (.instantiable RX11 31) cw_842)
      exact ⟨(a, d), fun q hq => by cases hq; exact h⟩
    | k + 12 => exact ⟨(m.cls, fun _ => 0), fun q hq => by simp [zl_cl] at hq⟩
  obtain ⟨f, hf⟩ := Classical.axiomOfChoice hex
  obtain ⟨D, hKc⟩ : ∃ D : va_G, ∀ (k : Nat) (q : vw_C), zl_cl[k]? = some q → u_Kn s q.1 q.2.1 q.2.2 (D.1 k) (D.2 k) := ⟨(fun k => (f k).1, fun k => (f k).2), fun k q hq => hf k q hq⟩
  obtain ⟨c0, k0, m0, a01, a02, a03⟩ := Cond.arrayClass_spec (hts (.arrayClass .int) cw_92)
  obtain ⟨c1, k1, m1, a11, a12, a13⟩ := Cond.arrayClass_spec (hts (.arrayClass .long) cw_206)
  obtain ⟨c2, k2, m2, a21, a22, a23⟩ := Cond.arrayClass_spec (hts (.arrayClass .boolean) cw_223)
  obtain ⟨cc, hcc⟩ : ∃ cc : ClassId × ClassId × ClassId, cc = (c0, c1, c2) := ⟨_, rfl⟩
  have hK : va_K D zl_cl (zn_ty cc) s := ⟨hKc, fun k q h => by
    rw [hcc] at h
    match k, h with
    | 0, h => cases h; exact ⟨fun n z => ⟨fun k h => (by cases h), k0, a02, m0, a03⟩, a01⟩
    | 1, h => cases h; exact ⟨fun n z => ⟨fun k h => (by cases h), k1, a12, m1, a13⟩, a11⟩
    | 2, h => cases h; exact ⟨fun n z => ⟨fun k h => (by cases h), k2, a22, m2, a23⟩, a21⟩
    | k + 3, h => simp [zn_ty] at h⟩
  have hN : zn_N s := fun q hq => va_tabs rfl rfl (hts0 _ (nn_init q hq))
  have hS : va_S (fun q : Nat => s.heap.size ≤ q) s.heap s.heap [] := va_S.rf
  have hP : va_P D zl_cl [] s.heap := fun k q h => by simp at h
  have hD : va_D (fun q : Nat => s.heap.size ≤ q) [] := ⟨fun i j p q h => by simp at h, fun k q h => by simp at h⟩
  have hl := lv_entry ([.ref b]) (n := 4) (Nat.le_of_ble_eq_true rfl)
  rw [lg_entry_eq]
  generalize (lg_sl ([.ref b]) ++ List.replicate (4 - (lg_sl ([.ref b])).length) Slot.unset).toArray = ls at hl ⊢
  have hl : lv_has ls 4 [(0, .ref b)] := hl
  refine va_new (ci := 10) (fs := [.null, .null, .null, .null, .null, .null, .null, .null, .null, .null, .null, .long 0]) (C := RX10) (T := TX10) (N := 12) hx hb hts inqX10 tyX10 tyX10_ok hown (hts (.classLink RL 7 RX10) cw_68) (hts (.instantiable RX10 12) cw_69) (hts (.initialized RX10) cw_53) hK hP hD hS hA rfl (fun j hj => by rcases (show j = 0 ∨ j = 1 ∨ j = 2 ∨ j = 3 ∨ j = 4 ∨ j = 5 ∨ j = 6 ∨ j = 7 ∨ j = 8 ∨ j = 9 ∨ j = 10 ∨ j = 11 by omega) with rfl | rfl | rfl | rfl | rfl | rfl | rfl | rfl | rfl | rfl | rfl | rfl <;> rfl) (Nat.le_of_ble_eq_true rfl) (Nat.le_of_ble_eq_true rfl) dL_law_0 (fun q0 H hP hD hS => ?_)
  have hP : va_P D zl_cl ([(q0, .inr (10, [.null, .null, .null, .null, .null, .null, .null, .null, .null, .null, .null, .long 0]))]) H := hP
  have hD : va_D (fun q : Nat => s.heap.size ≤ q) ([(q0, .inr (10, [.null, .null, .null, .null, .null, .null, .null, .null, .null, .null, .null, .long 0]))]) := hD
  refine W.widen (k := 1) (n := 12) (Nat.le_of_ble_eq_true rfl) (Nat.le_of_ble_eq_true rfl) ?_
  refine lv_dup hx hb dL_law_3 rfl ?_
  have hPc := hP.sub (ws' := [(q0, .inr (10, [.null, .null, .null, .null, .null, .null, .null, .null, .null, .null, .null, .long 0]))]) [0] rfl
  have hDc := hD.sub (ws' := [(q0, .inr (10, [.null, .null, .null, .null, .null, .null, .null, .null, .null, .null, .null, .long 0]))]) [0] (by decide) rfl
  have hFc := va_free (wc := [(q0, .inr (10, [.null, .null, .null, .null, .null, .null, .null, .null, .null, .null, .null, .long 0]))]) hD hS hA [0] rfl
  refine va_callv (va_runI (As := []) (rest := [.ref q0]) ⟨hx, hb, hml, hown, hts⟩ (cn_X10 l D cc q0 H.size) (cwI 0 hts (zt_good cw_72) rfl rfl rfl (hts (.initialized RX10) cw_53) (hts (.methodLink RL 9 yX10_init) cw_70) (hts (.instanceMethod yX10_init) cw_71) rfl (by decide +kernel) ⟨(Nat.le_of_ble_eq_true rfl), (Nat.le_of_ble_eq_true rfl)⟩) ⟨fun a U g mk q => by obtain ⟨q0, q1, qP, qK, qD, qN⟩ := q; exact ⟨q0, q1, qP, va_K.moved (u := U) (U := U.calling g mk a) (Vm.Alike.refl U.vm) qK, qD, qN.blind g mk a⟩, fun U hU hW => ⟨rfl, by rw [hU], by rw [hU]; exact hPc, va_K.moved hW.alike hK, hDc.weaken (fun _ _ _ _ => trivial), fun w hw => va_Nw.warmM hW (hN w hw)⟩⟩ rfl rfl hl.1 rfl (lv_room (Nat.le_of_ble_eq_true rfl)) dL_law_4 ⟨(Nat.le_of_ble_eq_true rfl), (Nat.le_of_ble_eq_true rfl)⟩) hS (fun q _ h => hFc q h) hFc (fun u t H1 locs ht hvm hw hB hz1 hk1 hS => ?_)
  obtain ⟨hP1, hD1⟩ := hB
  rw [ht] at hP1
  obtain ⟨hP, hD⟩ := va_join (wr := []) (w1 := zn_X10 cc q0 u) hP hD [0] [] rfl rfl (by decide) (by decide) hk1 hFc hP1 hD1
  generalize H1 = H at hP hS ⊢
  have hP : va_P D zl_cl (zn_X10 cc q0 u) H := hP
  have hD : va_D (fun q : Nat => s.heap.size ≤ q) (zn_X10 cc q0 u) := hD
  refine W.widen (k := 46) (n := 1725) (Nat.le_of_ble_eq_true rfl) (Nat.le_of_ble_eq_true rfl) ?_
  refine lv_astore_n (lv' := [(1, .ref q0), (0, .ref b)]) hx hb dL_law_7 rfl hl (by decide) rfl (fun ls hl => ?_)
  refine va_new (ci := 11) (fs := [.int 0, .int 0, .null, .null, .null, .null, .null, .null, .null, .null, .null, .int 0, .int 0, .int 0, .null, .int 0, .int 0, .int 0, .int 0, .int 0, .int 0, .null, .null, .int 0, .int 0, .int 0, .null, .null, .long 0, .null, .null]) (C := RX11) (T := TX11) (N := 31) hx hb hts inqX11 tyX11 tyX11_ok hown (hts (.classLink RL 10 RX11) cw_841) (hts (.instantiable RX11 31) cw_842) (hts (.initialized RX11) cw_64) hK hP hD hS hA rfl (fun j hj => by rcases (show j = 0 ∨ j = 1 ∨ j = 2 ∨ j = 3 ∨ j = 4 ∨ j = 5 ∨ j = 6 ∨ j = 7 ∨ j = 8 ∨ j = 9 ∨ j = 10 ∨ j = 11 ∨ j = 12 ∨ j = 13 ∨ j = 14 ∨ j = 15 ∨ j = 16 ∨ j = 17 ∨ j = 18 ∨ j = 19 ∨ j = 20 ∨ j = 21 ∨ j = 22 ∨ j = 23 ∨ j = 24 ∨ j = 25 ∨ j = 26 ∨ j = 27 ∨ j = 28 ∨ j = 29 ∨ j = 30 by omega) with rfl | rfl | rfl | rfl | rfl | rfl | rfl | rfl | rfl | rfl | rfl | rfl | rfl | rfl | rfl | rfl | rfl | rfl | rfl | rfl | rfl | rfl | rfl | rfl | rfl | rfl | rfl | rfl | rfl | rfl | rfl <;> rfl) (Nat.le_of_ble_eq_true rfl) (Nat.le_of_ble_eq_true rfl) dL_law_8 (fun q1 H hP hD hS => ?_)
  have hP : va_P D zl_cl (zn_X10 cc q0 u ++ [(q1, .inr (11, [.int 0, .int 0, .null, .null, .null, .null, .null, .null, .null, .null, .null, .int 0, .int 0, .int 0, .null, .int 0, .int 0, .int 0, .int 0, .int 0, .int 0, .null, .null, .int 0, .int 0, .int 0, .null, .null, .long 0, .null, .null]))]) H := hP
  have hD : va_D (fun q : Nat => s.heap.size ≤ q) (zn_X10 cc q0 u ++ [(q1, .inr (11, [.int 0, .int 0, .null, .null, .null, .null, .null, .null, .null, .null, .null, .int 0, .int 0, .int 0, .null, .int 0, .int 0, .int 0, .int 0, .int 0, .int 0, .null, .null, .int 0, .int 0, .int 0, .null, .null, .long 0, .null, .null]))]) := hD
  refine W.widen (k := 47) (n := 1756) (Nat.le_of_ble_eq_true rfl) (Nat.le_of_ble_eq_true rfl) ?_
  refine lv_dup hx hb dL_law_11 rfl ?_
  have hPc := hP.sub (ws' := [(q1, .inr (11, [.int 0, .int 0, .null, .null, .null, .null, .null, .null, .null, .null, .null, .int 0, .int 0, .int 0, .null, .int 0, .int 0, .int 0, .int 0, .int 0, .int 0, .null, .null, .int 0, .int 0, .int 0, .null, .null, .long 0, .null, .null]))]) [46] rfl
  have hDc := hD.sub (ws' := [(q1, .inr (11, [.int 0, .int 0, .null, .null, .null, .null, .null, .null, .null, .null, .null, .int 0, .int 0, .int 0, .null, .int 0, .int 0, .int 0, .int 0, .int 0, .int 0, .null, .null, .int 0, .int 0, .int 0, .null, .null, .long 0, .null, .null]))]) [46] (by decide) rfl
  have hFc := va_free (wc := [(q1, .inr (11, [.int 0, .int 0, .null, .null, .null, .null, .null, .null, .null, .null, .null, .int 0, .int 0, .int 0, .null, .int 0, .int 0, .int 0, .int 0, .int 0, .int 0, .null, .null, .int 0, .int 0, .int 0, .null, .null, .long 0, .null, .null]))]) hD hS hA [46] rfl
  refine va_callv (va_runI (As := []) (rest := [.ref q1]) ⟨hx, hb, hml, hown, hts⟩ (cn_X11 l D cc q1 H.size) (cwI 0 hts (zt_good cw_845) rfl rfl rfl (hts (.initialized RX11) cw_64) (hts (.methodLink RL 12 yX11_init) cw_843) (hts (.instanceMethod yX11_init) cw_844) rfl (by decide +kernel) ⟨(Nat.le_of_ble_eq_true rfl), (Nat.le_of_ble_eq_true rfl)⟩) ⟨fun a U g mk q => by obtain ⟨q0, q1, qP, qK, qD, qN⟩ := q; exact ⟨q0, q1, qP, va_K.moved (u := U) (U := U.calling g mk a) (Vm.Alike.refl U.vm) qK, qD, qN.blind g mk a⟩, fun U hU hW => ⟨rfl, by rw [hU], by rw [hU]; exact hPc, va_K.moved hW.alike hK, hDc.weaken (fun _ _ _ _ => trivial), fun w hw => va_Nw.warmM hW (hN w hw)⟩⟩ rfl rfl hl.1 rfl (lv_room (Nat.le_of_ble_eq_true rfl)) dL_law_12 ⟨(Nat.le_of_ble_eq_true rfl), (Nat.le_of_ble_eq_true rfl)⟩) hS (fun q _ h => hFc q h) hFc (fun v t H1 locs ht hvm hw hB hz1 hk1 hS => ?_)
  obtain ⟨hP1, hD1⟩ := hB
  rw [ht] at hP1
  obtain ⟨hP, hD⟩ := va_join (wr := zn_X10 cc q0 u) (w1 := zn_X11 cc q1 v) hP hD [46] [0, 1, 2, 3, 4, 5, 6, 7, 8, 9, 10, 11, 12, 13, 14, 15, 16, 17, 18, 19, 20, 21, 22, 23, 24, 25, 26, 27, 28, 29, 30, 31, 32, 33, 34, 35, 36, 37, 38, 39, 40, 41, 42, 43, 44, 45] rfl rfl (by decide) (by decide) hk1 hFc hP1 hD1
  generalize H1 = H at hP hS ⊢
  have hP : va_P D zl_cl (zn_X10 cc q0 u ++ zn_X11 cc q1 v) H := hP
  have hD : va_D (fun q : Nat => s.heap.size ≤ q) (zn_X10 cc q0 u ++ zn_X11 cc q1 v) := hD
  refine W.widen (k := 63) (n := 2136) (Nat.le_of_ble_eq_true rfl) (Nat.le_of_ble_eq_true rfl) ?_
  refine lv_astore_n (lv' := [(2, .ref q1), (1, .ref q0), (0, .ref b)]) hx hb dL_law_15 rfl hl (by decide) rfl (fun ls hl => ?_)
  refine lv_iconst (v := Int32.ofInt 0) hx hb dL_law_16 rfl ?_
  refine lv_istore_n (lv' := [(3, .int (Int32.ofInt 0)), (2, .ref q1), (1, .ref q0), (0, .ref b)]) hx hb dL_law_17 rfl hl (by decide) rfl (fun ls hl => ?_)
  refine va_forget (fun q hq => hS.2.2 q hq) ?_
  obtain ⟨tr, htr, hTr⟩ := va_Tof (args := #[Value.ref b]) (s := s) (N := 5) (f := zk_rows) (tm := .static "ChalkTramps" "DOING_ROWS" "[J") (ty := .long) (A := fun q : Nat => s.heap.size ≤ q) (by decide) (hgf _ (by decide +kernel)) (va_eqt (hgf (.eq (.length (.static "ChalkTramps" "DOING_ROWS" "[J")) (.int 5)) (by decide +kernel))) (fun j hj => by
    rcases (show j = 0 ∨ j = 1 ∨ j = 2 ∨ j = 3 ∨ j = 4 by omega) with rfl | rfl | rfl | rfl | rfl
    · exact va_eqtl (hgf (.eq (.elem (.static "ChalkTramps" "DOING_ROWS" "[J") (.int 0)) (.long 1)) (by decide +kernel))
    · exact va_eqtl (hgf (.eq (.elem (.static "ChalkTramps" "DOING_ROWS" "[J") (.int 1)) (.long 1000)) (by decide +kernel))
    · exact va_eqtl (hgf (.eq (.elem (.static "ChalkTramps" "DOING_ROWS" "[J") (.int 2)) (.long 1000000)) (by decide +kernel))
    · exact va_eqtl (hgf (.eq (.elem (.static "ChalkTramps" "DOING_ROWS" "[J") (.int 3)) (.long 1000000000)) (by decide +kernel))
    · exact va_eqtl (hgf (.eq (.elem (.static "ChalkTramps" "DOING_ROWS" "[J") (.int 4)) (.long 1000000000000)) (by decide +kernel))) (fun a h => Nat.not_le.mpr h)
  have hZ := va_Zref (A := fun q : Nat => s.heap.size ≤ q) (hts0 _ nn_rows) (hts (.initialized RX10) cw_53) htr (fun a h => Nat.not_le.mpr h)
  have hzw := zn_w l D cc q0 u q1 v b tr L xs
  rw [← hzw] at hP hD
  have e63 : zg_ad (zn_g l D cc q0 u q1 v b tr L xs) 63 = b := rfl
  have e64 : zg_ad (zn_g l D cc q0 u q1 v b tr L xs) 64 = tr := rfl
  have hl : lv_has ls 4 (zs_m (zn_g l D cc q0 u q1 v b tr L xs) 0 [some (zv_r 63), some (zv_r 0), some (zv_r 46), some (zv_i 0)]) := lv_sub hl [3, 2, 1, 0] rfl
  have hDg : zg_D (zn_g l D cc q0 u q1 v b tr L xs) = D := rfl
  have hlg : zg_l (zn_g l D cc q0 u q1 v b tr L xs) = l := rfl
  have hKg : va_K (zg_D (zn_g l D cc q0 u q1 v b tr L xs)) zl_cl (zg_ty (zn_g l D cc q0 u q1 v b tr L xs)) s := hK
  have hLg : zg_L (zn_g l D cc q0 u q1 v b tr L xs) = L := rfl
  have hXg : va_X (zg_ad (zn_g l D cc q0 u q1 v b tr L xs) 63) (zg_L (zn_g l D cc q0 u q1 v b tr L xs)) (zg_x (zn_g l D cc q0 u q1 v b tr L xs)) s s.heap := hX
  generalize zn_g l D cc q0 u q1 v b tr L xs = g at hP hD hl e63 e64 hDg hlg hKg hLg hXg
  have hin : ∀ q, zg_A g q → s.heap.size ≤ q := fun q hq => by
    obtain ⟨k, hk, rfl⟩ := hq
    exact hD.2 k _ (zl_w_at g zM0 hk)
  have hzS : zg_S g s := ⟨fun q hq => va_tabs rfl rfl (hts0 _ (nn_stat q hq)), by rw [e64]; exact hZ.narrow hin, by rw [e64]; exact hTr.narrow hin, hXg, ⟨by rw [e63]; exact hbl, fun y => by
    have := hin _ y
    rw [e63] at this
    omega⟩, fun i j hi hj ee => hD.1 i j _ _ (zl_w_at g zM0 hi) (zl_w_at g zM0 hj) ee, hKg⟩
  have key := lp_law (g := g) (by rw [hLg]; omega) _ 0 σ0 zM0 rfl (by decide) (Int.natCast_nonneg _) SW_0 RX_0 RM_0 p e s m #[Value.ref b] below meth c (lw_Z below #[Value.ref b] s) H [] ls ⟨hx, hb, hml, hown, hts, hzS, Nat.le_of_ble_eq_true rfl, Nat.le_of_ble_eq_true rfl⟩ (fun v M2 H2 locs2 la2 pc2 hQ hR hP2 hS2 => by
    rcases v with _ | z | z | z
    · exact absurd hQ (fun x => x)
    · have hz : z = 1 := hQ
      subst hz
      rw [hlg]
      exact va_forget (fun q hq => hin _ (hS2.2.2 q hq)) (lw_ret hx hb hr hlocks hR.1)
    · exact absurd hQ (fun x => x)
    · exact absurd hQ (fun x => x)) (by rw [hDg]; exact hP) ⟨hS.1, fun q h1 h2 => hS.2.1 q h1 (Nat.not_le.mpr h1), fun q h => by cases h⟩ hl
  rw [hlg] at key
  exact key

set_option maxHeartbeats 4000000 in
theorem lw_walk (l : Launch) (hflags : l.flags = flags0) (b : Addr) (xs : List Int32) : MetFree l x (headSpec (Jvm.Cond.code x code maxLocals ret :: tables_1) room_1) (lw_P b xs) (fun _ _ _ _ _ => True) lw_Q := by
  refine MetFree.of_bodyS (code := code) (maxLocals := maxLocals) (ret := ret) (by decide) ?_ ?_
  · intro args s m h hn
    obtain ⟨meth, c, h1, h2, h3, h4, h5, h6, -, -⟩ := Cond.code_spec hn (atoms_spec (ws := Jvm.Cond.code x code maxLocals ret :: tables_1) h _ List.mem_cons_self)
    exact ⟨meth, c, h1, h2, h3, h4, h5, h6⟩
  · intro p e s m args below meth c s₁ B hml0 hP _
    obtain ⟨rfl, hx, hbd, hgv⟩ := hP
    obtain ⟨scr, harrAt, hlist, hof, hsmall⟩ := hx
    obtain ⟨hcb, hkn, -, -⟩ := State.arrayAt?_spec harrAt
    have hown : s.vm.findClass R_law = some m.cls := findClass_of_methodNamed B.named
    have hts0 : ∀ c ∈ (Jvm.Cond.code x code maxLocals ret :: tables_1), c.before #[Value.ref b] s = true := atoms_spec (ws := Jvm.Cond.code x code maxLocals ret :: tables_1) B.pre
    have hts : ∀ w ∈ lw_tbl, w.before #[Value.ref b] s = true := k2_hts_sels lw_privs (fun w hw => hts0 w (List.mem_cons_of_mem _ hw)) lw_privs_ok
    have hml : c.maxLocals = 4 := B.maxLocals_eq (hts0 _ List.mem_cons_self)
    have X₀ : Stand p l e room_1 s m #[Value.ref b] below meth c s₁ [] 0 0 := Stand.of_body B
    have hh0 : s₁.heap = s.heap := by rw [B.state]; rfl
    have hsz : scr.slots.size = xs.length := by rw [← Array.length_toList, hlist, List.length_map]
    have hval : ∀ j : Nat, j < xs.length → scr.slots[j]? = some (.int (xs.getD j 0)) := fun j hj => by
      rw [← Array.getElem?_toList, hlist]
      simp [hj]
    have hbl : b < s.heap.size := (Array.getElem?_eq_some_iff.mp hcb).1
    have hX : va_X b xs.length (fun j => xs.getD j 0) s s.heap := ⟨scr, hcb, hof, hkn, hsz, hval⟩
    have K : W p l e room_1 s m #[Value.ref b] below meth c s₁.heap [] 0 0 (lw_Z below #[Value.ref b] s) (entryFrame m ([Value.ref b] : List Value).toArray 4) := by
      rw [hh0]
      exact whole_start l hflags hbd ⟨B.exec, B.bytes, B.returns, hml, hown, hts, hX, hbl, B.notSynchronized, hgv⟩
    obtain ⟨t, a1, o, b1, b2, b3⟩ := K s₁ rfl X₀
    exact ⟨t, o, a1, b1, b2, b3⟩
theorem lw_pre_spec {args : Array Value} {s : State} (h : (Jvm.Cond.and given_1 narrow_1).before args s = true) (hr : rest_1_c.before args s = true) : ∃ (b : Addr) (xs : List Int32), lw_P b xs args s := by
  have hs := flat_of_before _ h
  have hq := flat_of_before _ hr
  have hc : (Cond.count 1).before args s = true := hs _ (by decide +kernel)
  have harr : (Cond.arrayOf (.arg 0) .int).before args s = true := hs _ (by decide +kernel)
  have hle : (Cond.le (.length (.arg 0)) (.int 2560)).before args s = true := hs _ (by decide +kernel)
  have hlen : (Cond.isInt (.length (.arg 0))).before args s = true := hq _ (by decide +kernel)
  have hall : (Cond.all (.arg 0) (.isInt (.elem (.arg 0) (.index 0)))).before args s = true := hq _ (by decide +kernel)
  obtain ⟨b, xs, hb, hx⟩ := State.ints_of_pre rfl harr hlen hall
  have hsm : xs.length < 2 ^ 31 := hx.choose_spec.2.2.2
  have hev : (Term.length (.arg 0)).eval args s none [] s = some (.int xs.length.toInt32) := hx.length_eval hb
  have hv := Cond.le_ints hev (show (Term.int 2560).eval args s none [] s = some (.int 2560) from rfl)
  have hd : xs.length.toInt32 ≤ 2560 := by
    simpa [Cond.before, Cond.holds, hv] using hle
  have hN : xs.length ≤ 2560 := (Int32.ofNat_le_ofNat hsm (by decide)).mp (show Int32.ofNat xs.length ≤ Int32.ofNat 2560 from hd)
  exact ⟨b, xs, Cond.one_arg hc (show args[0]? = some (.ref b) from hb), hx, hN, h⟩
theorem lw_comes (l : Launch) (hflags : l.flags = flags0) : Comes l x (Jvm.Cond.code x code maxLocals ret :: tables_1) room_1 (fun tb e args s => Calls_1 tb e args s ∧ rest_1 tb e args s ∧ Pre_1 tb e args s)
    (fun _ _ args s o t => lw_Q args s o t) := by
  intro p e ha hc hk s m args below hf hfit hheap happ hpre
  obtain ⟨b, xs, hP⟩ := lw_pre_spec hpre.2.2 hpre.2.1
  obtain ⟨k, o, h1, h2, h3, hQ⟩ := lw_walk l hflags b xs p e ha hc hk s m args below hf ((Spec.applies_iff_loose hf).mp happ).1 hP trivial
  exact ⟨k, o, h1, h2, h3, hQ⟩
theorem lw_frame {s t : State} {o : Outcome} {args : Array Value} (h : Framed s o t [] 63 2136) :
    Framed s o t (fieldLocs frame_1_writes args s ++ arrayLocs frame_1_arrays args s ++ staticLocs frame_1_statics s) 63 2136 := h
theorem lw_limb (L : Cond) (hL : ∀ (args : Array Value) (s t : State), L.after args s (.returned (some (.int 1))) t = true) :
    ArmFor flags0 classFile x code maxLocals ret World_1 tables_1 room_1 Calls_1 rest_1 Pre_1
      (fun tb e a s o t => postC L tb e a s o t ∧ Framed s o t (fieldLocs frame_1_writes a s ++ arrayLocs frame_1_arrays a s ++ staticLocs frame_1_statics s) 63 2136) := by
  intro l hflags _ _ p e ha hc hk s m args below hf hfit hheap happ hpre
  obtain ⟨k, o, h1, h2, h3, rfl, hF⟩ := lw_comes l hflags p e ha hc hk s m args below hf hfit hheap happ hpre
  exact ⟨k, _, h1, h2, h3, hL args s _, lw_frame hF⟩
theorem i_vc : Claimed_1_1 ∧ Claimed_1_2 := ⟨lw_limb limb_1_1 (fun args s t => by simp [limb_1_1, Cond.after, Cond.holds, Cond.value]), lw_limb limb_1_2 (fun args s t => Cond.after_iff.mpr (by
  first | (rw [show limb_1_2 = Cond.eq .result (.int 1) from rfl, Cond.eq_ints (x := 1) (y := 1) rfl rfl]; simp; done) | (simp [limb_1_2, Cond.value, Term.eval]; done)))⟩

