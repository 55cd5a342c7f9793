
/-! THE CLAIM OUT OF ONE WALK OF THE LAW'S BODY. Your part is whole_start (and what it stands on); all else here is the same for every law, but numbers. -/
def R_law : String := "NestprintLaw"
def lw_P (b : Addr) (xs : List Int32) (args : Array Value) (s : State) : Prop := args = #[.ref b] ∧ s.IntsAt b xs ∧ xs.length ≤ 7 ∧ (Jvm.Cond.and given_1 narrow_1).before args s = true
def lw_Q (_ : Array Value) (s : State) (o : Outcome) (t : State) : Prop := o = .returned (some (.int 1)) ∧ Framed s o t [] 600002 7302232
def lw_Z (below : List Frame) (a : Array Value) (s : State) : State → Prop := fun t => ∃ o, t.status = .running ∧ Ended t below o ∧ lw_Q a s o t
/-- the law's own end, with 1 on the stack, nothing written that was there before, its room as the claim has it -/
theorem lw_ret {p : Program} {l : Launch} {e : Env} {s : State} {m : MethodId} {below : List Frame} {meth : Method} {c : Code} {b : Nat} (hx : p.tables.exec = Jvm.exec) (hb : c.code = code) (hr : meth.sig.returnType = ret) (hlocks : meth.locks = false) {pc : Nat} {H : Heap} {ls : Array Slot} (hdg : decode code pc = .ok (.ireturn, 1)) : W p l e room_1 s m #[Value.ref b] below meth c H [] 600002 7302232 (lw_Z below #[Value.ref b] s) (F0 m pc ls [.int 1]) := by
  intro T hT X
  obtain ⟨fs, hret, hrun, hended, hW, hframe⟩ := X.leave (v := some (.int 1)) (hlocks := hlocks) (fun h => by rw [hr] at h; cases h)
  have hmeth' : T.vm.method? m = some meth := X.method'
  refine ⟨T.setFrames fs, ?_, .returned (some (.int 1)), hrun, hended, rfl, ⟨_, rfl⟩, hW, hframe⟩
  jvm_step X.here [X.here.top, hx, hb, hdg, hmeth', hr, ret, narrow_b1]
  (try refine ⟨rfl, ?_⟩); (try refine ⟨rfl, ?_⟩)
  first | (intro acts; rw [hret _ acts rfl rfl rfl]) | rw [hret _ _ rfl rfl rfl]
  exact Steps.refl _
/-- what holds at the law's entry: the machine, the code, the tables' words (any of lw_tbl by 'hts w (by decide +kernel)'), the script of L ints xs at the cell b, what the Statement gives of the start (any of its parts by flat_of_before) -/
def lw_At (p : Program) (s : State) (m : MethodId) (meth : Method) (c : Code) (b L : Nat) (xs : Nat → Int32) : Prop :=
  p.tables.exec = Jvm.exec ∧ c.code = code ∧ meth.sig.returnType = ret ∧ c.maxLocals = 7 ∧ s.vm.findClass R_law = some m.cls ∧ (∀ w ∈ lw_tbl, w.before #[Value.ref b] s = true) ∧ va_X b L xs s s.heap ∧ b < s.heap.size ∧ meth.locks = false ∧ (Jvm.Cond.and given_1 narrow_1).before #[Value.ref b] s = true
theorem ns_rng (x : Int32) : -2147483648 ≤ x.toInt ∧ x.toInt ≤ 2147483647 := ⟨Int32.le_toInt x, by have := Int32.toInt_lt x; omega⟩
theorem ns_cmp (x : Int64) : lg_cmp x x = 0 := by simp [lg_cmp]
set_option maxHeartbeats 4000000 in
set_option maxRecDepth 100000 in
/-- the loop's end, behind its one turn -/
theorem law_tail {p : Program} {l : Launch} {e : Env} {s : State} {m : MethodId} {below : List Frame} {meth : Method} {c : Code} {b : Nat} {xs : Nat → Int32} {A : Nat → Prop} {H : Heap} {locs : List Loc} {ls : Array Slot} {cells slots : Nat} (C0 : lw_At p s m meth c b 7 xs) (hA : ∀ q : Nat, s.heap.size ≤ q → A q) (hAx : ∀ q : Nat, A q → s.heap.size ≤ q) (hS : va_S A s.heap H locs) (hl : lv_has ls 7 [(4, .int 0), (0, .ref b)]) (hc : cells ≤ 600002) (hs : slots ≤ 7302232) : W p l e room_1 s m #[Value.ref b] below meth c H locs cells slots (lw_Z below #[Value.ref b] s) (F0 m 2216 ls []) := by
  obtain ⟨hx, hb, hr, hml, hown, hts0, hX, hbl, hlocks, hgv⟩ := C0
  have hbA : ¬ A b := fun h => absurd (hAx b h) (Nat.not_le.mpr hbl)
  refine lv_iinc (v := 7) (lv' := [(4, .int 7), (0, .ref b)]) hx hb dL_law_2216 hl (k := 0) rfl (by decide) (by decide) rfl (fun ls hl => ?_)
  refine lv_goto (tgt := 27) hx hb dL_law_2219 (by decide) ?_
  refine lv_iload hx hb dL_law_27 (lv_at hl 0 rfl) ?_
  refine lv_aload_n hx hb dL_law_29 rfl (lv_at hl 1 rfl) ?_
  refine va_slen hx hb hX hbl hbA hS dL_law_30 ?_
  refine lv_bipush (v := 7) hx hb dL_law_31 (by decide) ?_
  refine lv_isub hx hb dL_law_33 ?_
  refine lv_topi (fun y ey => ?_)
  obtain rfl : y = 0 := ey.trans (by decide)
  refine lv_icmp_gt (tgt := 2222) hx hb dL_law_34 (by decide) (fun c1 => ?_) (fun c1 => absurd (by decide) c1)
  refine lv_iconst (v := 1) hx hb dL_law_2222 (by decide) ?_
  refine va_forget (fun q hq => hAx _ (hS.2.2 q hq)) ?_
  refine W.widen (k := 600002) (n := 7302232) hc hs ?_
  exact lw_ret hx hb hr hlocks dL_law_2223
theorem ns_str {args : Array Value} {s : State} {tm : Term} {nm : String} (h : (Cond.exactly tm nm).before args s = true) : ∃ a : Nat, tm.eval args s none [] s = some (.ref a) := by
  obtain ⟨a, c, cA, kA, q1, -⟩ := Cond.exactly_spec (args := args) (first := s) (o := none) (s := s) (idx := []) (t := tm) (cls := nm) h
  exact ⟨a, q1⟩
theorem ns_eqr {args : Array Value} {s : State} {t u : Term} {a : Nat} (h : (Cond.eq t u).before args s = true) (ht : t.eval args s none [] s = some (.ref a)) : u.eval args s none [] s = some (.ref a) := by
  obtain ⟨w, h1, h2⟩ := Cond.eq_one (show (Cond.eq t u).holds args s none s [] = true from h)
  rw [ht] at h1
  cases h1
  exact h2
theorem ns_eql {args : Array Value} {s : State} {t u : Term} {a : Nat} (h : (Cond.eq u t).before args s = true) (ht : t.eval args s none [] s = some (.ref a)) : u.eval args s none [] s = some (.ref a) := by
  obtain ⟨w, h1, h2⟩ := Cond.eq_one (show (Cond.eq u t).holds args s none s [] = true from h)
  rw [ht] at h2
  cases h2
  exact h1
theorem ns_isr {args : Array Value} {s : State} {tm : Term} (h : (Cond.isRef tm).before args s = true) : ∃ a : Nat, tm.eval args s none [] s = some .null ∨ tm.eval args s none [] s = some (.ref a) := by
  obtain ⟨v, hv, hr⟩ := Cond.isRef_spec h
  cases v with
  | ref a => exact ⟨a, Or.inr hv⟩
  | null => exact ⟨0, Or.inl hv⟩
  | _ => simp [Value.isRef] at hr
set_option maxHeartbeats 4000000 in
set_option maxRecDepth 100000 in
theorem ns_given {s : State} {b : Nat} {A : Nat → Prop} (hts : ∀ w ∈ lw_tbl, w.before #[Value.ref b] s = true) (hgv : (Jvm.Cond.and given_1 narrow_1).before #[Value.ref b] s = true) (hAn : ∀ a : Nat, a < s.heap.size → ¬ A a) : ∃ g : Nat → Nat, ns_F g A s s.heap := by
  have hs := flat_of_before _ hgv
  obtain ⟨z0, ez, hT0⟩ := va_Tof (tm := .static "java/util/ArrayList" "DEFAULTCAPACITY_EMPTY_ELEMENTDATA" "[Ljava/lang/Object;") (ty := .object "java/lang/Object") (N := 0) (f := fun _ => .null) (A := A) (by decide) (hs (.arrayOf (.static "java/util/ArrayList" "DEFAULTCAPACITY_EMPTY_ELEMENTDATA" "[Ljava/lang/Object;") (.object "java/lang/Object")) (by decide +kernel)) (va_eqt (hs (.eq (.length (.static "java/util/ArrayList" "DEFAULTCAPACITY_EMPTY_ELEMENTDATA" "[Ljava/lang/Object;")) (.int 0)) (by decide +kernel))) (fun j hj => absurd hj (Nat.not_lt_zero j)) hAn
  obtain ⟨a10, e10⟩ := ns_str (hs (.exactly (.string RX9 102) "java/lang/String") (by decide +kernel))
  obtain ⟨a12, e12⟩ := ns_str (hs (.exactly (.string RX9 107) "java/lang/String") (by decide +kernel))
  obtain ⟨a14, e14⟩ := ns_str (hs (.exactly (.string RX9 122) "java/lang/String") (by decide +kernel))
  obtain ⟨a16, e16⟩ := ns_str (hs (.exactly (.string RX9 173) "java/lang/String") (by decide +kernel))
  obtain ⟨a18, e18⟩ := ns_str (hs (.exactly (.string RX9 213) "java/lang/String") (by decide +kernel))
  obtain ⟨a20, e20⟩ := ns_str (hs (.exactly (.string RX9 228) "java/lang/String") (by decide +kernel))
  have e20_RX16_281 := ns_eqr (hs (.eq (.string RX9 228) (.string RX16 281)) (by decide +kernel)) e20
  obtain ⟨a22, e22⟩ := ns_str (hs (.exactly (.string RX9 294) "java/lang/String") (by decide +kernel))
  obtain ⟨a24, e24⟩ := ns_str (hs (.exactly (.string RX9 346) "java/lang/String") (by decide +kernel))
  obtain ⟨a26, e26⟩ := ns_str (hs (.exactly (.string RX9 360) "java/lang/String") (by decide +kernel))
  obtain ⟨a28, e28⟩ := ns_str (hs (.exactly (.string RX9 364) "java/lang/String") (by decide +kernel))
  obtain ⟨a30, e30⟩ := ns_str (hs (.exactly (.string RX9 366) "java/lang/String") (by decide +kernel))
  obtain ⟨a32, e32⟩ := ns_str (hs (.exactly (.string RX9 373) "java/lang/String") (by decide +kernel))
  have e32_RX16_229 := ns_eqr (hs (.eq (.string RX9 373) (.string RX16 229)) (by decide +kernel)) e32
  obtain ⟨a34, e34⟩ := ns_str (hs (.exactly (.string RX16 23) "java/lang/String") (by decide +kernel))
  have e34_RX13_71 := ns_eqr (hs (.eq (.string RX16 23) (.string RX13 71)) (by decide +kernel)) e34
  have e34_RJ1_151 := ns_eqr (hs (.eq (.string RX16 23) (.string RJ1 151)) (by decide +kernel)) e34
  obtain ⟨a35, e35, hT35⟩ := va_Tof (tm := .field (.string RX16 23) "java/lang/String" "value" "[B") (ty := .byte) (N := 0) (f := fun j => .int (([] : List Int32).getD j 0)) (A := A) (by decide) (hs (.arrayOf (.field (.string RX16 23) "java/lang/String" "value" "[B") .byte) (by decide +kernel)) (va_eqt (hs (.eq (.length (.field (.string RX16 23) "java/lang/String" "value" "[B")) (.int 0)) (by decide +kernel))) (fun j hj => absurd hj (Nat.not_lt_zero j)) hAn
  have b20 : ∀ j : Nat, j < 1 → (Term.elem (.field (.string RX9 228) "java/lang/String" "value" "[B") (.int (Int32.ofNat j))).eval #[Value.ref b] s none [] s = some (.int (([33] : List Int32).getD j 0)) := by
    intro j hj
    rcases (show j = 0 by omega) with rfl
    · exact va_eqt (hs (.eq (.elem (.field (.string RX9 228) "java/lang/String" "value" "[B") (.int 0)) (.int 33)) (by decide +kernel))
  obtain ⟨a21, e21, hT21⟩ := va_Tof (tm := .field (.string RX9 228) "java/lang/String" "value" "[B") (ty := .byte) (N := 1) (f := fun j => .int (([33] : List Int32).getD j 0)) (A := A) (by decide) (hs (.arrayOf (.field (.string RX9 228) "java/lang/String" "value" "[B") .byte) (by decide +kernel)) (va_eqt (hs (.eq (.length (.field (.string RX9 228) "java/lang/String" "value" "[B")) (.int 1)) (by decide +kernel))) b20 hAn
  have b32 : ∀ j : Nat, j < 20 → (Term.elem (.field (.string RX9 373) "java/lang/String" "value" "[B") (.int (Int32.ofNat j))).eval #[Value.ref b] s none [] s = some (.int (([97, 98, 99, 100, 101, 102, 95, 44, 59, 126, 91, 93, 123, 125, 60, 62, 40, 41, 43, 42] : List Int32).getD j 0)) := by
    intro j hj
    rcases (show j = 0 ∨ j = 1 ∨ j = 2 ∨ j = 3 ∨ j = 4 ∨ j = 5 ∨ j = 6 ∨ j = 7 ∨ j = 8 ∨ j = 9 ∨ j = 10 ∨ j = 11 ∨ j = 12 ∨ j = 13 ∨ j = 14 ∨ j = 15 ∨ j = 16 ∨ j = 17 ∨ j = 18 ∨ j = 19 by omega) with rfl | rfl | rfl | rfl | rfl | rfl | rfl | rfl | rfl | rfl | rfl | rfl | rfl | rfl | rfl | rfl | rfl | rfl | rfl | rfl
    · exact va_eqt (hs (.eq (.elem (.field (.string RX9 373) "java/lang/String" "value" "[B") (.int 0)) (.int 97)) (by decide +kernel))
    · exact va_eqt (hs (.eq (.elem (.field (.string RX9 373) "java/lang/String" "value" "[B") (.int 1)) (.int 98)) (by decide +kernel))
    · exact va_eqt (hs (.eq (.elem (.field (.string RX9 373) "java/lang/String" "value" "[B") (.int 2)) (.int 99)) (by decide +kernel))
    · exact va_eqt (hs (.eq (.elem (.field (.string RX9 373) "java/lang/String" "value" "[B") (.int 3)) (.int 100)) (by decide +kernel))
    · exact va_eqt (hs (.eq (.elem (.field (.string RX9 373) "java/lang/String" "value" "[B") (.int 4)) (.int 101)) (by decide +kernel))
    · exact va_eqt (hs (.eq (.elem (.field (.string RX9 373) "java/lang/String" "value" "[B") (.int 5)) (.int 102)) (by decide +kernel))
    · exact va_eqt (hs (.eq (.elem (.field (.string RX9 373) "java/lang/String" "value" "[B") (.int 6)) (.int 95)) (by decide +kernel))
    · exact va_eqt (hs (.eq (.elem (.field (.string RX9 373) "java/lang/String" "value" "[B") (.int 7)) (.int 44)) (by decide +kernel))
    · exact va_eqt (hs (.eq (.elem (.field (.string RX9 373) "java/lang/String" "value" "[B") (.int 8)) (.int 59)) (by decide +kernel))
    · exact va_eqt (hs (.eq (.elem (.field (.string RX9 373) "java/lang/String" "value" "[B") (.int 9)) (.int 126)) (by decide +kernel))
    · exact va_eqt (hs (.eq (.elem (.field (.string RX9 373) "java/lang/String" "value" "[B") (.int 10)) (.int 91)) (by decide +kernel))
    · exact va_eqt (hs (.eq (.elem (.field (.string RX9 373) "java/lang/String" "value" "[B") (.int 11)) (.int 93)) (by decide +kernel))
    · exact va_eqt (hs (.eq (.elem (.field (.string RX9 373) "java/lang/String" "value" "[B") (.int 12)) (.int 123)) (by decide +kernel))
    · exact va_eqt (hs (.eq (.elem (.field (.string RX9 373) "java/lang/String" "value" "[B") (.int 13)) (.int 125)) (by decide +kernel))
    · exact va_eqt (hs (.eq (.elem (.field (.string RX9 373) "java/lang/String" "value" "[B") (.int 14)) (.int 60)) (by decide +kernel))
    · exact va_eqt (hs (.eq (.elem (.field (.string RX9 373) "java/lang/String" "value" "[B") (.int 15)) (.int 62)) (by decide +kernel))
    · exact va_eqt (hs (.eq (.elem (.field (.string RX9 373) "java/lang/String" "value" "[B") (.int 16)) (.int 40)) (by decide +kernel))
    · exact va_eqt (hs (.eq (.elem (.field (.string RX9 373) "java/lang/String" "value" "[B") (.int 17)) (.int 41)) (by decide +kernel))
    · exact va_eqt (hs (.eq (.elem (.field (.string RX9 373) "java/lang/String" "value" "[B") (.int 18)) (.int 43)) (by decide +kernel))
    · exact va_eqt (hs (.eq (.elem (.field (.string RX9 373) "java/lang/String" "value" "[B") (.int 19)) (.int 42)) (by decide +kernel))
  obtain ⟨a33, e33, hT33⟩ := va_Tof (tm := .field (.string RX9 373) "java/lang/String" "value" "[B") (ty := .byte) (N := 20) (f := fun j => .int (([97, 98, 99, 100, 101, 102, 95, 44, 59, 126, 91, 93, 123, 125, 60, 62, 40, 41, 43, 42] : List Int32).getD j 0)) (A := A) (by decide) (hs (.arrayOf (.field (.string RX9 373) "java/lang/String" "value" "[B") .byte) (by decide +kernel)) (va_eqt (hs (.eq (.length (.field (.string RX9 373) "java/lang/String" "value" "[B")) (.int 20)) (by decide +kernel))) b32 hAn
  obtain ⟨n1, en⟩ := ns_isr (hs (.isRef (.static "jdk/internal/util/Preconditions" "SIOOBE_FORMATTER" "Ljava/util/function/BiFunction;")) (by decide +kernel))
  exact ⟨fun k => ([z0, n1, 0, 0, 0, 0, 0, 0, 0, 0, a10, 0, a12, 0, a14, 0, a16, 0, a18, 0, a20, a21, a22, 0, a24, 0, a26, 0, a28, 0, a30, 0, a32, a33, a34, a35] : List Nat).getD k 0, va_Nw.of rfl (hts (.methodLinkNest RX9 11 yX3_init "Nestprint") (by decide +kernel)),
    va_Nw.of rfl (hts (.methodLinkNest RX9 30 yX1_init "Nestprint") (by decide +kernel)),
    va_Nw.of rfl (hts (.methodLinkNest RX9 37 yX0_init "Nestprint") (by decide +kernel)),
    va_Nw.of rfl (hts (.methodLinkNest RX9 76 yX7_init "Nestprint") (by decide +kernel)),
    va_Nw.of rfl (hts (.methodLinkNest RX2 11 yX8_init "Nestprint") (by decide +kernel)),
    va_Nw.of rfl (hts (.methodLinkNest RL 119 yX10_init "NestprintLaw") (by decide +kernel)),
    va_Nw.of rfl (hts (.methodLinkNest RX11 33 yX16_one "NestprintModel") (by decide +kernel)),
    va_Nw.of rfl (hts (.fieldLinkNest RL 13 "NestprintLaw$Out" "n" "J" "NestprintLaw") (by decide +kernel)),
    va_Nw.of rfl (hts (.fieldLinkNest RL 65 "NestprintLaw$Out" "s" "Ljava/lang/String;" "NestprintLaw") (by decide +kernel)),
    va_Nw.of rfl (hts (.fieldLinkNest RJx35411 28 "java/util/ArrayList" "size" "I" "java/util/ArrayList") (by decide +kernel)),
    va_Nw.of rfl (hts (.castable "java/lang/IndexOutOfBoundsException" "java/lang/IndexOutOfBoundsException") (by decide +kernel)),
    va_Nw.of rfl (hts (.castable "java/lang/IllegalArgumentException" "java/lang/IllegalArgumentException") (by decide +kernel)),
    va_Nw.of rfl (hts (.declares ⟨"java/lang/RuntimeException", "<init>", "(Ljava/lang/String;)V"⟩) (by decide +kernel)),
    va_Nw.of rfl (hts (.declares ⟨"java/lang/Exception", "<init>", "(Ljava/lang/String;)V"⟩) (by decide +kernel)),
    va_Nw.of rfl (hts (.declares ⟨"java/lang/Throwable", "<init>", "(Ljava/lang/String;)V"⟩) (by decide +kernel)),
    va_Zof (hts (.laysStatic "java/lang/String" "COMPACT_STRINGS" "Z") (by decide +kernel)) (hts (.initialized "java/lang/String") (by decide +kernel)) (va_eqi (hs (.eq (.static "java/lang/String" "COMPACT_STRINGS" "Z") (.int 1)) (by decide +kernel))) hAn,
    va_Zof (hts (.laysStatic "java/util/ArrayList" "DEFAULTCAPACITY_EMPTY_ELEMENTDATA" "[Ljava/lang/Object;") (by decide +kernel)) (hts (.initialized "java/util/ArrayList") (by decide +kernel)) (ez) hAn,
    (en.imp (fun z9 => va_Zof (hts (.laysStatic "jdk/internal/util/Preconditions" "SIOOBE_FORMATTER" "Ljava/util/function/BiFunction;") (by decide +kernel)) (hts (.initialized "jdk/internal/util/Preconditions") (by decide +kernel)) z9 hAn) (fun z9 => va_Zof (hts (.laysStatic "jdk/internal/util/Preconditions" "SIOOBE_FORMATTER" "Ljava/util/function/BiFunction;") (by decide +kernel)) (hts (.initialized "jdk/internal/util/Preconditions") (by decide +kernel)) z9 hAn)),
    vx_Zqof (hts (.laysStatic Bundle.tN "UNASSIGNED_STACK" Bundle.steD) (by decide +kernel)) (hts (.initialized Bundle.tN) (by decide +kernel)) (hs (.isRef (.static Bundle.tN "UNASSIGNED_STACK" Bundle.steD)) (by decide +kernel)) hAn,
    vx_Zqof (hts (.laysStatic Bundle.tN "SUPPRESSED_SENTINEL" Bundle.listD) (by decide +kernel)) (hts (.initialized Bundle.tN) (by decide +kernel)) (hs (.isRef (.static Bundle.tN "SUPPRESSED_SENTINEL" Bundle.listD)) (by decide +kernel)) hAn,
    hT0,
    vk_R.of (hts (.stringRef RX9 102 "letter is 0 to 25") (by decide +kernel)) e10,
    vk_R.of (hts (.stringRef RX9 107 "length is 1 to 9") (by decide +kernel)) e12,
    vk_R.of (hts (.stringRef RX9 122 "kind is 1 to 4") (by decide +kernel)) e14,
    vk_R.of (hts (.stringRef RX9 173 "ribbon is 1 to 60") (by decide +kernel)) e16,
    vk_R.of (hts (.stringRef RX9 213 "what is 0 to 7") (by decide +kernel)) e18,
    vk_R.of (hts (.stringRef RX9 228 "!") (by decide +kernel)) e20,
    vk_R.of (hts (.stringRef RX9 294 "what is 0 to 9") (by decide +kernel)) e22,
    vk_R.of (hts (.stringRef RX9 346 "no such node") (by decide +kernel)) e24,
    vk_R.of (hts (.stringRef RX9 360 "width is 1 to 60") (by decide +kernel)) e26,
    vk_R.of (hts (.stringRef RX9 364 "nth is below 0") (by decide +kernel)) e28,
    vk_R.of (hts (.stringRef RX9 366 "a code is -1 to 21") (by decide +kernel)) e30,
    vk_R.of (hts (.stringRef RX9 373 "abcdef_,;~[]{}<>()+*") (by decide +kernel)) e32,
    vk_R.of (hts (.stringRef RX16 23 "") (by decide +kernel)) e34,
    vk_R.of (hts (.stringRef RX16 281 "!") (by decide +kernel)) e20_RX16_281,
    vk_R.of (hts (.stringRef RX16 229 "abcdef_,;~[]{}<>()+*") (by decide +kernel)) e32_RX16_229,
    vk_R.of (hts (.stringRef RX13 71 "") (by decide +kernel)) e34_RX13_71,
    vk_R.of (hts (.stringRef RJ1 151 "") (by decide +kernel)) e34_RJ1_151,
    va_Oof (hs (.exactly (.string RX16 23) "java/lang/String") (by decide +kernel)) e34 hAn,
    vk_OFof e34 (va_eqt (hs (.eq (.field (.string RX16 23) "java/lang/String" "coder" "B") (.int 0)) (by decide +kernel))) hAn,
    vk_OFof e34 e35 hAn,
    hT35,
    va_Oof (hs (.exactly (.string RX9 228) "java/lang/String") (by decide +kernel)) e20 hAn,
    vk_OFof e20 (va_eqt (hs (.eq (.field (.string RX9 228) "java/lang/String" "coder" "B") (.int 0)) (by decide +kernel))) hAn,
    vk_OFof e20 e21 hAn,
    hT21,
    va_Oof (hs (.exactly (.string RX9 373) "java/lang/String") (by decide +kernel)) e32 hAn,
    vk_OFof e32 (va_eqt (hs (.eq (.field (.string RX9 373) "java/lang/String" "coder" "B") (.int 0)) (by decide +kernel))) hAn,
    vk_OFof e32 e33 hAn,
    hT33,
    va_Nw.of rfl (hts (.castable "NestprintModel$Node" "java/lang/Object") (by decide +kernel)),
    va_AO.of (hts (.arrayOver (.object "java/lang/Object")) (by decide +kernel)),
    va_Fw.of (hts (.declares ⟨"java/util/Iterator", "hasNext", "()Z"⟩) (by decide +kernel)) (hts (.interfaceMethod "java/util/Iterator" "java/util/Iterator" "hasNext" "()Z") (by decide +kernel)) (hts (.publicMethod yJx35411_hasNext_aae02) (by decide +kernel)) (hts (.unhidden RJx35411 "hasNext" "()Z") (by decide +kernel)) (hts (.castable RJx35411 "java/util/Iterator") (by decide +kernel))⟩
