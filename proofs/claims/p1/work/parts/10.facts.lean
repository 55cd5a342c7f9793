
theorem fb_rng (x : Int32) : -2147483648 ≤ x.toInt ∧ x.toInt < 2147483648 := by
  have h1 := Int32.le_toInt x
  have h2 := Int32.toInt_lt x
  omega
theorem fb_bmod {z : Int} (h1 : -2147483648 ≤ z) (h2 : z < 2147483648) : z.bmod (2 ^ 32) = z := by
  rw [Int.bmod_eq_of_le (by omega) (by omega)]
theorem fb_addI {x y : Int32} (h1 : -2147483648 ≤ x.toInt + y.toInt) (h2 : x.toInt + y.toInt < 2147483648) : (x + y).toInt = x.toInt + y.toInt := by
  rw [Int32.toInt_add, fb_bmod h1 h2]
theorem fb_subI {x y : Int32} (h1 : -2147483648 ≤ x.toInt - y.toInt) (h2 : x.toInt - y.toInt < 2147483648) : (x - y).toInt = x.toInt - y.toInt := by
  rw [Int32.toInt_sub, fb_bmod h1 h2]
theorem ns_i2c {w : Int32} (h0 : (0 : Int) ≤ w.toInt) (h1 : w.toInt ≤ (65535 : Int)) : (w.toUInt32 % 65536).toInt32 = w := by
  have e5 : (65535 : Int32).toInt = ((65535 : Nat) : Int) := by decide
  obtain ⟨j, hj, rfl⟩ := nI_of2 (x := w) (M := 65535) (n := 65535) e5 (fun z => absurd (show w.toInt < (0 : Int) from Int32.lt_iff_toInt_lt.mp z) (by omega)) (Int32.le_iff_toInt_le.mpr (by rw [e5]; omega))
  rw [pk_char, pk_tn (by omega), Nat.mod_eq_of_lt (by omega)]
theorem ns_narC {w : Int32} (h0 : (0 : Int) ≤ w.toInt) (h1 : w.toInt ≤ (65535 : Int)) : narrow .char (.int w) = .int w := by
  have e5 : (65535 : Int32).toInt = ((65535 : Nat) : Int) := by decide
  obtain ⟨j, hj, rfl⟩ := nI_of2 (x := w) (M := 65535) (n := 65535) e5 (fun z => absurd (show w.toInt < (0 : Int) from Int32.lt_iff_toInt_lt.mp z) (by omega)) (Int32.le_iff_toInt_le.mpr (by rw [e5]; omega))
  exact (pk_charN (by omega)).1
def ns_len (n c : Int32) : Int32 := if c.toInt = -1 then n else if c.toInt = 21 then 0 else if c.toInt = 20 then (if 0 < n.toInt then n - 1 else 0) else n + 1
theorem ns_len_cases (n c : Int32) (h : (0 : Int) ≤ n.toInt ∧ n.toInt ≤ (1000 : Int)) : (c.toInt = -1 ∧ (ns_len n c).toInt = n.toInt) ∨ (c.toInt = 21 ∧ (ns_len n c).toInt = 0) ∨ (c.toInt = 20 ∧ 0 < n.toInt ∧ (ns_len n c).toInt = n.toInt - 1) ∨ (c.toInt = 20 ∧ n.toInt = 0 ∧ (ns_len n c).toInt = 0) ∨ (c.toInt ≠ -1 ∧ c.toInt ≠ 20 ∧ c.toInt ≠ 21 ∧ (ns_len n c).toInt = n.toInt + 1) := by
  have a1 : (1 : Int32).toInt = 1 := by decide
  have a0 : (0 : Int32).toInt = 0 := by decide
  have s1 : 0 < n.toInt → (n - 1).toInt = n.toInt - 1 := fun g => by rw [fb_subI (by rw [a1]; omega) (by rw [a1]; omega), a1]
  have s2 : (n + 1).toInt = n.toInt + 1 := by rw [fb_addI (by rw [a1]; omega) (by rw [a1]; omega), a1]
  unfold ns_len
  split
  · omega
  · split
    · omega
    · split
      · split
        · rename_i g
          have := s1 g
          omega
        · omega
      · omega
theorem ns_len_rng (n c : Int32) (k k1 : Int) (h : (0 : Int) ≤ n.toInt ∧ n.toInt ≤ k) (hk : k ≤ (1000 : Int)) (e : k + 1 = k1) : (0 : Int) ≤ (ns_len n c).toInt ∧ (ns_len n c).toInt ≤ k1 := by
  have q := ns_len_cases n c ⟨h.1, by omega⟩
  omega
theorem ns_lenA (x n : Int32) (h : x.toInt = (-1 : Int)) : ns_len n x = n := if_pos h
theorem ns_lenB (x n : Int32) (h0 : (0 : Int) ≤ x.toInt) (h1 : x.toInt ≤ (19 : Int)) : ns_len n x = n + 1 := by
  unfold ns_len
  rw [if_neg (by omega), if_neg (by omega), if_neg (by omega)]
theorem ns_lenC0 (x : Int32) (h : x.toInt = (20 : Int)) : ns_len 0 x = 0 := by
  unfold ns_len
  rw [if_neg (by omega), if_neg (by omega), if_pos h, if_neg (by decide)]
theorem ns_lenC (x n : Int32) (hn : (0 : Int) < n.toInt) (h : x.toInt = (20 : Int)) : ns_len n x = n - 1 := by
  unfold ns_len
  rw [if_neg (by omega), if_neg (by omega), if_pos h, if_pos hn]
theorem ns_lenD (x n : Int32) (h : x.toInt = (21 : Int)) : ns_len n x = 0 := by
  unfold ns_len
  rw [if_neg (by omega), if_pos h]
def ns_in (v a b : Int32) : Int32 := if a.toInt ≤ v.toInt ∧ v.toInt ≤ b.toInt then 1 else 0
theorem ns_in_rng (v a b : Int32) : (0 : Int) ≤ (ns_in v a b).toInt ∧ (ns_in v a b).toInt ≤ (1 : Int) := by
  unfold ns_in
  split <;> decide
def ns_not (x : Int32) : Int32 := if x = 0 then 1 else 0
theorem ns_not_rng (x : Int32) : (0 : Int) ≤ (ns_not x).toInt ∧ (ns_not x).toInt ≤ (1 : Int) := by
  unfold ns_not
  split <;> decide
def ns_cut (a b : Int32) : Int32 := if (0 : Int) ≤ b.toInt ∧ b.toInt < a.toInt then b else a
theorem ns_cut_cases (a b : Int32) : ((0 : Int) ≤ b.toInt ∧ b.toInt < a.toInt ∧ (ns_cut a b).toInt = b.toInt) ∨ (¬ ((0 : Int) ≤ b.toInt ∧ b.toInt < a.toInt) ∧ (ns_cut a b).toInt = a.toInt) := by
  unfold ns_cut
  split
  · omega
  · omega
def ns_ch (c : Int32) : Int32 := (([97, 98, 99, 100, 101, 102, 95, 44, 59, 126, 91, 93, 123, 125, 60, 62, 40, 41, 43, 42] : List Int32).getD c.toNatClampNeg 0) &&& 255
theorem ns_ch_rng (c : Int32) : (0 : Int) ≤ (ns_ch c).toInt ∧ (ns_ch c).toInt ≤ (127 : Int) := by
  unfold ns_ch
  have key : ∀ v ∈ ([0, 97, 98, 99, 100, 101, 102, 95, 44, 59, 126, 91, 93, 123, 125, 60, 62, 40, 41, 43, 42] : List Int32), (0 : Int) ≤ (v &&& 255).toInt ∧ (v &&& 255).toInt ≤ (127 : Int) := by decide
  apply key
  rw [List.getD_eq_getElem?_getD]
  cases h : ([97, 98, 99, 100, 101, 102, 95, 44, 59, 126, 91, 93, 123, 125, 60, 62, 40, 41, 43, 42] : List Int32)[c.toNatClampNeg]? with
  | none => exact List.mem_cons_self
  | some v => exact List.mem_cons_of_mem _ (List.mem_of_getElem? h)
theorem ns_or1 {y : Int32} (h0 : (0 : Int) ≤ y.toInt) (h1 : y.toInt ≤ (1 : Int)) : (1 : Int32) ||| y = 1 := by
  have a1 : (1 : Int32).toInt = 1 := by decide
  have a0 : (0 : Int32).toInt = 0 := by decide
  rcases (show y.toInt = 0 ∨ y.toInt = 1 by omega) with h | h
  · obtain rfl : y = 0 := Int32.toInt_inj.mp (by rw [h, a0])
    decide
  · obtain rfl : y = 1 := Int32.toInt_inj.mp (by rw [h, a1])
    decide
section NSB
variable {p : Program} {l : Launch} {e : Env} {R : Room} {s : State} {m : MethodId} {args : Array Value} {below : List Frame} {meth : Method} {c : Code} {H : Heap} {locs : List Loc} {cells slots : Nat} {Q : State → Prop}
variable {cc : ByteArray} {pc : Nat} {ls : Array Slot} {rest : List Value}
theorem ns_bool (hexec : p.tables.exec = Jvm.exec) (hb : c.code = cc) {x : Int32} (d1 : decode cc pc = .ok (.ifCond .ne 7, 3)) (d2 : decode cc (pc + 3) = .ok (.iconst 1, 1)) (d3 : decode cc (pc + 4) = .ok (.goto 4, 3)) (d4 : decode cc (pc + 7) = .ok (.iconst 0, 1))
    (k : W p l e R s m args below meth c H locs cells slots Q (F0 m (pc + 8) ls (.int (ns_not x) :: rest))) : W p l e R s m args below meth c H locs cells slots Q (F0 m pc ls (.int x :: rest)) := by
  refine lv_if_ne (tgt := pc + 7) hexec hb d1 (by omega) (fun h => ?_) (fun h => ?_)
  · refine lv_iconst (v := 0) hexec hb d4 (by decide) ?_
    have e0 : ns_not x = 0 := if_neg h
    rw [e0] at k
    exact k
  · refine lv_iconst (v := 1) hexec hb d2 (by decide) ?_
    refine lv_goto (tgt := pc + 8) hexec hb d3 (by omega) ?_
    have e0 : ns_not x = 1 := if_pos h
    rw [e0] at k
    exact k
end NSB
section NSC
variable {p : Program} {l : Launch} {e : Env} {R : Room} {s : State} {m : MethodId} {args : Array Value} {below : List Frame} {meth : Method} {c : Code} {H : Heap} {locs : List Loc} {cells slots : Nat} {Q : State → Prop}
variable {cc : ByteArray} {pc : Nat} {ls : Array Slot} {rest : List Value} {D : va_G} {cl : List vw_C} {A : Nat → Prop} {a : Nat} {tys : List (ClassId × FieldType)} {ws : va_W}
theorem ns_ldcSW (hexec : p.tables.exec = Jvm.exec) (hb : c.code = cc) {own tx : String} {index q : Nat} (hown : s.vm.findClass own = some m.cls) (hZ : vk_R own index tx q s) (hdg : decode cc pc = .ok (.ldc_w index, 3))
    (k : W p l e R s m args below meth c H locs cells slots Q (F0 m (pc + 3) ls (.ref q :: rest))) : W p l e R s m args below meth c H locs cells slots Q (F0 m pc ls rest) := by
  intro T hT X
  obtain ⟨t, a1, b1⟩ := k T hT X
  exact ⟨t, X.ldcStringW hexec hown (text := tx) (a := q) hZ.1 hZ.2 (g := F0 m pc ls rest) rfl (by rw [hb]; exact hdg) t a1, b1⟩
theorem ns_copy0 (hexec : p.tables.exec = Jvm.exec) (hb : c.code = cc) (hml : c.maxLocals = ls.size) {own : String} {index : Nat} (hown : s.vm.findClass own = some m.cls) (hlink : (Cond.methodLink own index arraycopyName).before args s = true) (hnat : (Cond.native arraycopyName).before args s = true) (hstat : (Cond.static arraycopyName).before args s = true) (hini : (Cond.initialized "java/lang/System").before args s = true)
    (hK : va_K D cl tys s) (hP : va_P D cl ws H) (hD : va_D A ws) (hS : va_S A s.heap H locs) {b0 : Nat} {v0 : Nat → Value} (hT0 : va_T .byte b0 0 v0 A s s.heap) (q1 t1 : Nat) {c1 : ClassId} {n1 : Nat} {g : Nat → Int32} (ha1 : ws[q1]? = some (a, .inl (c1, n1, .inl g))) (ht1 : tys[t1]? = some (c1, .byte))
    {dp : Int32} (h2 : ¬ dp < 0) (h5 : dp.toNatClampNeg ≤ n1)
    (hframes : 1 ≤ R.frames) (hlocals : (rest.map fun v => v.category).sum + (nativeFrameWords "java/lang/System" "arraycopy" 5 + 11) ≤ R.locals) (hdg : decode cc pc = .ok (.invokestatic index, 3))
    (kk : ∀ (H1 : Heap) (locs1 : List Loc), va_P D cl ws H1 → va_D A ws → va_S A s.heap H1 locs1 → W p l e R s m args below meth c H1 locs1 cells slots Q (F0 m (pc + 3) ls rest)) : W p l e R s m args below meth c H locs cells slots Q (F0 m pc ls (.int 0 :: .int dp :: .ref a :: .int 0 :: .ref b0 :: rest)) := by
  have nn : ∀ z : Int32, ¬ z < 0 → z.toInt = (z.toNatClampNeg : Int) := by
    intro z hz
    have hz0 : (0 : Int) ≤ z.toInt := by
      have := Int32.not_lt.mp hz
      simpa using Int32.le_iff_toInt_le.mp this
    show z.toInt = ((z.toInt.toNat : Nat) : Int)
    omega
  have z0 : (0 : Int32).toNatClampNeg = 0 := by decide
  intro T hT X
  obtain ⟨scr, hs1, hs2, hs3, hs4, hs5, hs6', hs7⟩ := hT0
  have hc0 : H[b0]? = some scr := by rw [hS.2.1 b0 (Array.getElem?_eq_some_iff.mp hs1).1 hs7]; exact hs1
  have hc1 : H[a]? = some (vp_cell c1 (n1, .inl g)) := hP q1 _ ha1
  obtain ⟨hs6, k0, hk0, cm0, hkk0⟩ := hs2
  obtain ⟨-, k1, hk1, cm1, hkk1⟩ := (hK.2 t1 _ ht1).1 n1 (fun j => .int (g j))
  obtain ⟨vm', X', step⟩ := X.arraycopy hexec hown hlink hnat hstat hini (src := b0) (dst := a) (cs := scr) (cd := vp_cell c1 (n1, .inl g)) (srcPos := 0) (destPos := dp) (n := 0) (by rw [hT]; exact hc0) (by rw [hT]; exact hc1)
    hs6 (fun _ h => by cases h) hs3 (fun h => by cases h) hk0 hk1 hkk0 hkk1 (by simp [refKind]) (by decide) h2 (by decide)
    (by rw [nn 0 (by decide), z0]; omega)
    (by rw [nn dp h2, nn 0 (by decide), z0]; show ¬ _ > ((arrV c1 n1 (fun j => .int (g j))).slots.size : Int); rw [arrV_size]; omega)
    (fun vm₁ _ i hi => by rw [z0] at hi; exact absurd hi (Nat.not_lt_zero i))
    (g := F0 m pc ls (.int 0 :: .int dp :: .ref a :: .int 0 :: .ref b0 :: rest)) rfl (by rw [hml]) (rest := rest) rfl (by rw [hb]; exact hdg) hframes (by show 2 * 0 + _ + _ ≤ _; omega)
  have e1 : copied scr (vp_cell c1 (n1, .inl g)) 0 dp 0 = vp_cell c1 (n1, .inl g) := by
    have q := va_copiedX (fun z => .int z) scr c1 (n0 := 0) (n1 := n1) (sp := 0) (dp := dp.toNatClampNeg) (n := 0) (fun _ => 0) g (fun j hj => absurd hj (Nat.not_lt_zero j)) (Nat.le_refl 0)
    have r : va_cpy (fun _ => (0 : Int32)) g 0 dp.toNatClampNeg 0 = g := by
      funext j
      unfold va_cpy
      rw [if_neg (by omega)]
    rw [r] at q
    exact q
  rw [e1] at X' step
  have hl : a < H.size := (Array.getElem?_eq_some_iff.mp hc1).1
  have hheap : ((T.setVm vm').setCell a (vp_cell c1 (n1, .inl g))).heap = H.setIfInBounds a (vp_cell c1 (n1, .inl g)) := by rw [← hT]; rfl
  have oq : ∀ q : Nat, q ≠ a → (H.setIfInBounds a (vp_cell c1 (n1, .inl g)))[q]? = H[q]? := fun q hq => by simp [Array.getElem?_setIfInBounds, Ne.symm hq]
  have ews : ws.set q1 (a, .inl (c1, n1, .inl g)) = ws := by
    apply List.ext_getElem?
    intro i
    rw [List.getElem?_set]
    split
    · rename_i hi
      subst hi
      split
      · exact ha1.symm
      · rename_i hh
        rw [List.getElem?_eq_none (by omega)]
    · rfl
  have hP1 : va_P D cl (ws.set q1 (a, .inl (c1, n1, .inl g))) (H.setIfInBounds a (vp_cell c1 (n1, .inl g))) := hP.set hD ha1 (show (H.setIfInBounds a _)[a]? = some _ by simp [Array.getElem?_setIfInBounds, hl]) oq
  rw [ews] at hP1
  obtain ⟨t, a1, b1⟩ := kk _ _ hP1 hD ⟨by simp; exact hS.1, fun q g1 g2 => by
      rw [oq q (fun e => g2 (by rw [e]; exact hD.2 q1 _ ha1))]
      exact hS.2.1 q g1 g2, fun q hq => by
      rcases List.mem_append.mp hq with h | h
      · exact hS.2.2 q h
      · obtain ⟨z, -, hz⟩ := List.mem_map.mp h
        rw [← hz]
        exact hD.2 q1 _ ha1⟩ _ hheap X'
  exact ⟨t, step t a1, b1⟩
end NSC

def ns_F (g : Nat → Nat) (A : Nat → Prop) (U : State) (H : Heap) : Prop := (va_Nw (.methodLinkNest RX9 11 yX3_init "Nestprint") U) ∧ (va_Nw (.methodLinkNest RX9 30 yX1_init "Nestprint") U) ∧ (va_Nw (.methodLinkNest RX9 37 yX0_init "Nestprint") U) ∧ (va_Nw (.methodLinkNest RX9 76 yX7_init "Nestprint") U) ∧ (va_Nw (.methodLinkNest RX2 11 yX8_init "Nestprint") U) ∧ (va_Nw (.methodLinkNest RL 119 yX10_init "NestprintLaw") U) ∧ (va_Nw (.methodLinkNest RX11 33 yX16_one "NestprintModel") U) ∧ (va_Nw (.fieldLinkNest RL 13 "NestprintLaw$Out" "n" "J" "NestprintLaw") U) ∧ (va_Nw (.fieldLinkNest RL 65 "NestprintLaw$Out" "s" "Ljava/lang/String;" "NestprintLaw") U) ∧ (va_Nw (.fieldLinkNest RJx35411 28 "java/util/ArrayList" "size" "I" "java/util/ArrayList") U) ∧ (va_Nw (.castable "java/lang/IndexOutOfBoundsException" "java/lang/IndexOutOfBoundsException") U) ∧ (va_Nw (.castable "java/lang/IllegalArgumentException" "java/lang/IllegalArgumentException") U) ∧ (va_Nw (.declares ⟨"java/lang/RuntimeException", "<init>", "(Ljava/lang/String;)V"⟩) U) ∧ (va_Nw (.declares ⟨"java/lang/Exception", "<init>", "(Ljava/lang/String;)V"⟩) U) ∧ (va_Nw (.declares ⟨"java/lang/Throwable", "<init>", "(Ljava/lang/String;)V"⟩) U) ∧ (va_Z "java/lang/String" "COMPACT_STRINGS" "Z" (.int 1) A U H) ∧ (va_Z "java/util/ArrayList" "DEFAULTCAPACITY_EMPTY_ELEMENTDATA" "[Ljava/lang/Object;" (.ref (g 0)) A U H) ∧ (va_Z "jdk/internal/util/Preconditions" "SIOOBE_FORMATTER" "Ljava/util/function/BiFunction;" .null A U H ∨ va_Z "jdk/internal/util/Preconditions" "SIOOBE_FORMATTER" "Ljava/util/function/BiFunction;" (.ref (g 1)) A U H) ∧ (vx_Zq Bundle.tN "UNASSIGNED_STACK" Bundle.steD A U H) ∧ (vx_Zq Bundle.tN "SUPPRESSED_SENTINEL" Bundle.listD A U H) ∧ (va_T (.object "java/lang/Object") (g 0) 0 (fun _ => .null) A U H) ∧ (vk_R RX9 102 "letter is 0 to 25" (g 10) U) ∧ (vk_R RX9 107 "length is 1 to 9" (g 12) U) ∧ (vk_R RX9 122 "kind is 1 to 4" (g 14) U) ∧ (vk_R RX9 173 "ribbon is 1 to 60" (g 16) U) ∧ (vk_R RX9 213 "what is 0 to 7" (g 18) U) ∧ (vk_R RX9 228 "!" (g 20) U) ∧ (vk_R RX9 294 "what is 0 to 9" (g 22) U) ∧ (vk_R RX9 346 "no such node" (g 24) U) ∧ (vk_R RX9 360 "width is 1 to 60" (g 26) U) ∧ (vk_R RX9 364 "nth is below 0" (g 28) U) ∧ (vk_R RX9 366 "a code is -1 to 21" (g 30) U) ∧ (vk_R RX9 373 "abcdef_,;~[]{}<>()+*" (g 32) U) ∧ (vk_R RX16 23 "" (g 34) U) ∧ (vk_R RX16 281 "!" (g 20) U) ∧ (vk_R RX16 229 "abcdef_,;~[]{}<>()+*" (g 32) U) ∧ (vk_R RX13 71 "" (g 34) U) ∧ (vk_R RJ1 151 "" (g 34) U) ∧ (va_O "java/lang/String" (g 34) A U H) ∧ (va_OF "java/lang/String" "coder" "B" (.int 0) (g 34) A U H) ∧ (va_OF "java/lang/String" "value" "[B" (.ref (g 35)) (g 34) A U H) ∧ (va_T .byte (g 35) 0 (fun j => .int (([] : List Int32).getD j 0)) A U H) ∧ (va_O "java/lang/String" (g 20) A U H) ∧ (va_OF "java/lang/String" "coder" "B" (.int 0) (g 20) A U H) ∧ (va_OF "java/lang/String" "value" "[B" (.ref (g 21)) (g 20) A U H) ∧ (va_T .byte (g 21) 1 (fun j => .int (([33] : List Int32).getD j 0)) A U H) ∧ (va_O "java/lang/String" (g 32) A U H) ∧ (va_OF "java/lang/String" "coder" "B" (.int 0) (g 32) A U H) ∧ (va_OF "java/lang/String" "value" "[B" (.ref (g 33)) (g 32) A U H) ∧ (va_T .byte (g 33) 20 (fun j => .int (([97, 98, 99, 100, 101, 102, 95, 44, 59, 126, 91, 93, 123, 125, 60, 62, 40, 41, 43, 42] : List Int32).getD j 0)) A U H) ∧ (va_Nw (.castable "NestprintModel$Node" "java/lang/Object") U) ∧ (va_AO "java/lang/Object" U) ∧ (va_Fw RJx35411 ⟨"java/util/Iterator", "hasNext", "()Z"⟩ yJx35411_hasNext_aae02 U)
theorem ns_f0 {g : Nat → Nat} {A : Nat → Prop} {U : State} {H : Heap} (h : ns_F g A U H) : va_Nw (.methodLinkNest RX9 11 yX3_init "Nestprint") U := h.1
theorem ns_f1 {g : Nat → Nat} {A : Nat → Prop} {U : State} {H : Heap} (h : ns_F g A U H) : va_Nw (.methodLinkNest RX9 30 yX1_init "Nestprint") U := h.2.1
theorem ns_f2 {g : Nat → Nat} {A : Nat → Prop} {U : State} {H : Heap} (h : ns_F g A U H) : va_Nw (.methodLinkNest RX9 37 yX0_init "Nestprint") U := h.2.2.1
theorem ns_f3 {g : Nat → Nat} {A : Nat → Prop} {U : State} {H : Heap} (h : ns_F g A U H) : va_Nw (.methodLinkNest RX9 76 yX7_init "Nestprint") U := h.2.2.2.1
theorem ns_f4 {g : Nat → Nat} {A : Nat → Prop} {U : State} {H : Heap} (h : ns_F g A U H) : va_Nw (.methodLinkNest RX2 11 yX8_init "Nestprint") U := h.2.2.2.2.1
theorem ns_f5 {g : Nat → Nat} {A : Nat → Prop} {U : State} {H : Heap} (h : ns_F g A U H) : va_Nw (.methodLinkNest RL 119 yX10_init "NestprintLaw") U := h.2.2.2.2.2.1
theorem ns_f6 {g : Nat → Nat} {A : Nat → Prop} {U : State} {H : Heap} (h : ns_F g A U H) : va_Nw (.methodLinkNest RX11 33 yX16_one "NestprintModel") U := h.2.2.2.2.2.2.1
theorem ns_f7 {g : Nat → Nat} {A : Nat → Prop} {U : State} {H : Heap} (h : ns_F g A U H) : va_Nw (.fieldLinkNest RL 13 "NestprintLaw$Out" "n" "J" "NestprintLaw") U := h.2.2.2.2.2.2.2.1
theorem ns_f8 {g : Nat → Nat} {A : Nat → Prop} {U : State} {H : Heap} (h : ns_F g A U H) : va_Nw (.fieldLinkNest RL 65 "NestprintLaw$Out" "s" "Ljava/lang/String;" "NestprintLaw") U := h.2.2.2.2.2.2.2.2.1
theorem ns_f9 {g : Nat → Nat} {A : Nat → Prop} {U : State} {H : Heap} (h : ns_F g A U H) : va_Nw (.fieldLinkNest RJx35411 28 "java/util/ArrayList" "size" "I" "java/util/ArrayList") U := h.2.2.2.2.2.2.2.2.2.1
theorem ns_f10 {g : Nat → Nat} {A : Nat → Prop} {U : State} {H : Heap} (h : ns_F g A U H) : va_Nw (.castable "java/lang/IndexOutOfBoundsException" "java/lang/IndexOutOfBoundsException") U := h.2.2.2.2.2.2.2.2.2.2.1
theorem ns_f11 {g : Nat → Nat} {A : Nat → Prop} {U : State} {H : Heap} (h : ns_F g A U H) : va_Nw (.castable "java/lang/IllegalArgumentException" "java/lang/IllegalArgumentException") U := h.2.2.2.2.2.2.2.2.2.2.2.1
theorem ns_f12 {g : Nat → Nat} {A : Nat → Prop} {U : State} {H : Heap} (h : ns_F g A U H) : va_Nw (.declares ⟨"java/lang/RuntimeException", "<init>", "(Ljava/lang/String;)V"⟩) U := h.2.2.2.2.2.2.2.2.2.2.2.2.1
theorem ns_f13 {g : Nat → Nat} {A : Nat → Prop} {U : State} {H : Heap} (h : ns_F g A U H) : va_Nw (.declares ⟨"java/lang/Exception", "<init>", "(Ljava/lang/String;)V"⟩) U := h.2.2.2.2.2.2.2.2.2.2.2.2.2.1
theorem ns_f14 {g : Nat → Nat} {A : Nat → Prop} {U : State} {H : Heap} (h : ns_F g A U H) : va_Nw (.declares ⟨"java/lang/Throwable", "<init>", "(Ljava/lang/String;)V"⟩) U := h.2.2.2.2.2.2.2.2.2.2.2.2.2.2.1
theorem ns_f15 {g : Nat → Nat} {A : Nat → Prop} {U : State} {H : Heap} (h : ns_F g A U H) : va_Z "java/lang/String" "COMPACT_STRINGS" "Z" (.int 1) A U H := h.2.2.2.2.2.2.2.2.2.2.2.2.2.2.2.1
theorem ns_f16 {g : Nat → Nat} {A : Nat → Prop} {U : State} {H : Heap} (h : ns_F g A U H) : va_Z "java/util/ArrayList" "DEFAULTCAPACITY_EMPTY_ELEMENTDATA" "[Ljava/lang/Object;" (.ref (g 0)) A U H := h.2.2.2.2.2.2.2.2.2.2.2.2.2.2.2.2.1
theorem ns_f17 {g : Nat → Nat} {A : Nat → Prop} {U : State} {H : Heap} (h : ns_F g A U H) : va_Z "jdk/internal/util/Preconditions" "SIOOBE_FORMATTER" "Ljava/util/function/BiFunction;" .null A U H ∨ va_Z "jdk/internal/util/Preconditions" "SIOOBE_FORMATTER" "Ljava/util/function/BiFunction;" (.ref (g 1)) A U H := h.2.2.2.2.2.2.2.2.2.2.2.2.2.2.2.2.2.1
theorem ns_f18 {g : Nat → Nat} {A : Nat → Prop} {U : State} {H : Heap} (h : ns_F g A U H) : vx_Zq Bundle.tN "UNASSIGNED_STACK" Bundle.steD A U H := h.2.2.2.2.2.2.2.2.2.2.2.2.2.2.2.2.2.2.1
theorem ns_f19 {g : Nat → Nat} {A : Nat → Prop} {U : State} {H : Heap} (h : ns_F g A U H) : vx_Zq Bundle.tN "SUPPRESSED_SENTINEL" Bundle.listD A U H := h.2.2.2.2.2.2.2.2.2.2.2.2.2.2.2.2.2.2.2.1
theorem ns_f20 {g : Nat → Nat} {A : Nat → Prop} {U : State} {H : Heap} (h : ns_F g A U H) : va_T (.object "java/lang/Object") (g 0) 0 (fun _ => .null) A U H := h.2.2.2.2.2.2.2.2.2.2.2.2.2.2.2.2.2.2.2.2.1
theorem ns_f21 {g : Nat → Nat} {A : Nat → Prop} {U : State} {H : Heap} (h : ns_F g A U H) : vk_R RX9 102 "letter is 0 to 25" (g 10) U := h.2.2.2.2.2.2.2.2.2.2.2.2.2.2.2.2.2.2.2.2.2.1
theorem ns_f22 {g : Nat → Nat} {A : Nat → Prop} {U : State} {H : Heap} (h : ns_F g A U H) : vk_R RX9 107 "length is 1 to 9" (g 12) U := h.2.2.2.2.2.2.2.2.2.2.2.2.2.2.2.2.2.2.2.2.2.2.1
theorem ns_f23 {g : Nat → Nat} {A : Nat → Prop} {U : State} {H : Heap} (h : ns_F g A U H) : vk_R RX9 122 "kind is 1 to 4" (g 14) U := h.2.2.2.2.2.2.2.2.2.2.2.2.2.2.2.2.2.2.2.2.2.2.2.1
theorem ns_f24 {g : Nat → Nat} {A : Nat → Prop} {U : State} {H : Heap} (h : ns_F g A U H) : vk_R RX9 173 "ribbon is 1 to 60" (g 16) U := h.2.2.2.2.2.2.2.2.2.2.2.2.2.2.2.2.2.2.2.2.2.2.2.2.1
theorem ns_f25 {g : Nat → Nat} {A : Nat → Prop} {U : State} {H : Heap} (h : ns_F g A U H) : vk_R RX9 213 "what is 0 to 7" (g 18) U := h.2.2.2.2.2.2.2.2.2.2.2.2.2.2.2.2.2.2.2.2.2.2.2.2.2.1
theorem ns_f26 {g : Nat → Nat} {A : Nat → Prop} {U : State} {H : Heap} (h : ns_F g A U H) : vk_R RX9 228 "!" (g 20) U := h.2.2.2.2.2.2.2.2.2.2.2.2.2.2.2.2.2.2.2.2.2.2.2.2.2.2.1
theorem ns_f27 {g : Nat → Nat} {A : Nat → Prop} {U : State} {H : Heap} (h : ns_F g A U H) : vk_R RX9 294 "what is 0 to 9" (g 22) U := h.2.2.2.2.2.2.2.2.2.2.2.2.2.2.2.2.2.2.2.2.2.2.2.2.2.2.2.1
theorem ns_f28 {g : Nat → Nat} {A : Nat → Prop} {U : State} {H : Heap} (h : ns_F g A U H) : vk_R RX9 346 "no such node" (g 24) U := h.2.2.2.2.2.2.2.2.2.2.2.2.2.2.2.2.2.2.2.2.2.2.2.2.2.2.2.2.1
theorem ns_f29 {g : Nat → Nat} {A : Nat → Prop} {U : State} {H : Heap} (h : ns_F g A U H) : vk_R RX9 360 "width is 1 to 60" (g 26) U := h.2.2.2.2.2.2.2.2.2.2.2.2.2.2.2.2.2.2.2.2.2.2.2.2.2.2.2.2.2.1
theorem ns_f30 {g : Nat → Nat} {A : Nat → Prop} {U : State} {H : Heap} (h : ns_F g A U H) : vk_R RX9 364 "nth is below 0" (g 28) U := h.2.2.2.2.2.2.2.2.2.2.2.2.2.2.2.2.2.2.2.2.2.2.2.2.2.2.2.2.2.2.1
theorem ns_f31 {g : Nat → Nat} {A : Nat → Prop} {U : State} {H : Heap} (h : ns_F g A U H) : vk_R RX9 366 "a code is -1 to 21" (g 30) U := h.2.2.2.2.2.2.2.2.2.2.2.2.2.2.2.2.2.2.2.2.2.2.2.2.2.2.2.2.2.2.2.1
theorem ns_f32 {g : Nat → Nat} {A : Nat → Prop} {U : State} {H : Heap} (h : ns_F g A U H) : vk_R RX9 373 "abcdef_,;~[]{}<>()+*" (g 32) U := h.2.2.2.2.2.2.2.2.2.2.2.2.2.2.2.2.2.2.2.2.2.2.2.2.2.2.2.2.2.2.2.2.1
theorem ns_f33 {g : Nat → Nat} {A : Nat → Prop} {U : State} {H : Heap} (h : ns_F g A U H) : vk_R RX16 23 "" (g 34) U := h.2.2.2.2.2.2.2.2.2.2.2.2.2.2.2.2.2.2.2.2.2.2.2.2.2.2.2.2.2.2.2.2.2.1
theorem ns_f34 {g : Nat → Nat} {A : Nat → Prop} {U : State} {H : Heap} (h : ns_F g A U H) : vk_R RX16 281 "!" (g 20) U := h.2.2.2.2.2.2.2.2.2.2.2.2.2.2.2.2.2.2.2.2.2.2.2.2.2.2.2.2.2.2.2.2.2.2.1
theorem ns_f35 {g : Nat → Nat} {A : Nat → Prop} {U : State} {H : Heap} (h : ns_F g A U H) : vk_R RX16 229 "abcdef_,;~[]{}<>()+*" (g 32) U := h.2.2.2.2.2.2.2.2.2.2.2.2.2.2.2.2.2.2.2.2.2.2.2.2.2.2.2.2.2.2.2.2.2.2.2.1
theorem ns_f36 {g : Nat → Nat} {A : Nat → Prop} {U : State} {H : Heap} (h : ns_F g A U H) : vk_R RX13 71 "" (g 34) U := h.2.2.2.2.2.2.2.2.2.2.2.2.2.2.2.2.2.2.2.2.2.2.2.2.2.2.2.2.2.2.2.2.2.2.2.2.1
theorem ns_f37 {g : Nat → Nat} {A : Nat → Prop} {U : State} {H : Heap} (h : ns_F g A U H) : vk_R RJ1 151 "" (g 34) U := h.2.2.2.2.2.2.2.2.2.2.2.2.2.2.2.2.2.2.2.2.2.2.2.2.2.2.2.2.2.2.2.2.2.2.2.2.2.1
theorem ns_f38 {g : Nat → Nat} {A : Nat → Prop} {U : State} {H : Heap} (h : ns_F g A U H) : va_O "java/lang/String" (g 34) A U H := h.2.2.2.2.2.2.2.2.2.2.2.2.2.2.2.2.2.2.2.2.2.2.2.2.2.2.2.2.2.2.2.2.2.2.2.2.2.2.1
theorem ns_f39 {g : Nat → Nat} {A : Nat → Prop} {U : State} {H : Heap} (h : ns_F g A U H) : va_OF "java/lang/String" "coder" "B" (.int 0) (g 34) A U H := h.2.2.2.2.2.2.2.2.2.2.2.2.2.2.2.2.2.2.2.2.2.2.2.2.2.2.2.2.2.2.2.2.2.2.2.2.2.2.2.1
theorem ns_f40 {g : Nat → Nat} {A : Nat → Prop} {U : State} {H : Heap} (h : ns_F g A U H) : va_OF "java/lang/String" "value" "[B" (.ref (g 35)) (g 34) A U H := h.2.2.2.2.2.2.2.2.2.2.2.2.2.2.2.2.2.2.2.2.2.2.2.2.2.2.2.2.2.2.2.2.2.2.2.2.2.2.2.2.1
theorem ns_f41 {g : Nat → Nat} {A : Nat → Prop} {U : State} {H : Heap} (h : ns_F g A U H) : va_T .byte (g 35) 0 (fun j => .int (([] : List Int32).getD j 0)) A U H := h.2.2.2.2.2.2.2.2.2.2.2.2.2.2.2.2.2.2.2.2.2.2.2.2.2.2.2.2.2.2.2.2.2.2.2.2.2.2.2.2.2.1
theorem ns_f42 {g : Nat → Nat} {A : Nat → Prop} {U : State} {H : Heap} (h : ns_F g A U H) : va_O "java/lang/String" (g 20) A U H := h.2.2.2.2.2.2.2.2.2.2.2.2.2.2.2.2.2.2.2.2.2.2.2.2.2.2.2.2.2.2.2.2.2.2.2.2.2.2.2.2.2.2.1
theorem ns_f43 {g : Nat → Nat} {A : Nat → Prop} {U : State} {H : Heap} (h : ns_F g A U H) : va_OF "java/lang/String" "coder" "B" (.int 0) (g 20) A U H := h.2.2.2.2.2.2.2.2.2.2.2.2.2.2.2.2.2.2.2.2.2.2.2.2.2.2.2.2.2.2.2.2.2.2.2.2.2.2.2.2.2.2.2.1
theorem ns_f44 {g : Nat → Nat} {A : Nat → Prop} {U : State} {H : Heap} (h : ns_F g A U H) : va_OF "java/lang/String" "value" "[B" (.ref (g 21)) (g 20) A U H := h.2.2.2.2.2.2.2.2.2.2.2.2.2.2.2.2.2.2.2.2.2.2.2.2.2.2.2.2.2.2.2.2.2.2.2.2.2.2.2.2.2.2.2.2.1
theorem ns_f45 {g : Nat → Nat} {A : Nat → Prop} {U : State} {H : Heap} (h : ns_F g A U H) : va_T .byte (g 21) 1 (fun j => .int (([33] : List Int32).getD j 0)) A U H := h.2.2.2.2.2.2.2.2.2.2.2.2.2.2.2.2.2.2.2.2.2.2.2.2.2.2.2.2.2.2.2.2.2.2.2.2.2.2.2.2.2.2.2.2.2.1
theorem ns_f46 {g : Nat → Nat} {A : Nat → Prop} {U : State} {H : Heap} (h : ns_F g A U H) : va_O "java/lang/String" (g 32) A U H := h.2.2.2.2.2.2.2.2.2.2.2.2.2.2.2.2.2.2.2.2.2.2.2.2.2.2.2.2.2.2.2.2.2.2.2.2.2.2.2.2.2.2.2.2.2.2.1
theorem ns_f47 {g : Nat → Nat} {A : Nat → Prop} {U : State} {H : Heap} (h : ns_F g A U H) : va_OF "java/lang/String" "coder" "B" (.int 0) (g 32) A U H := h.2.2.2.2.2.2.2.2.2.2.2.2.2.2.2.2.2.2.2.2.2.2.2.2.2.2.2.2.2.2.2.2.2.2.2.2.2.2.2.2.2.2.2.2.2.2.2.1
theorem ns_f48 {g : Nat → Nat} {A : Nat → Prop} {U : State} {H : Heap} (h : ns_F g A U H) : va_OF "java/lang/String" "value" "[B" (.ref (g 33)) (g 32) A U H := h.2.2.2.2.2.2.2.2.2.2.2.2.2.2.2.2.2.2.2.2.2.2.2.2.2.2.2.2.2.2.2.2.2.2.2.2.2.2.2.2.2.2.2.2.2.2.2.2.1
theorem ns_f49 {g : Nat → Nat} {A : Nat → Prop} {U : State} {H : Heap} (h : ns_F g A U H) : va_T .byte (g 33) 20 (fun j => .int (([97, 98, 99, 100, 101, 102, 95, 44, 59, 126, 91, 93, 123, 125, 60, 62, 40, 41, 43, 42] : List Int32).getD j 0)) A U H := h.2.2.2.2.2.2.2.2.2.2.2.2.2.2.2.2.2.2.2.2.2.2.2.2.2.2.2.2.2.2.2.2.2.2.2.2.2.2.2.2.2.2.2.2.2.2.2.2.2.1
theorem ns_f50 {g : Nat → Nat} {A : Nat → Prop} {U : State} {H : Heap} (h : ns_F g A U H) : va_Nw (.castable "NestprintModel$Node" "java/lang/Object") U := h.2.2.2.2.2.2.2.2.2.2.2.2.2.2.2.2.2.2.2.2.2.2.2.2.2.2.2.2.2.2.2.2.2.2.2.2.2.2.2.2.2.2.2.2.2.2.2.2.2.2.1
theorem ns_f51 {g : Nat → Nat} {A : Nat → Prop} {U : State} {H : Heap} (h : ns_F g A U H) : va_AO "java/lang/Object" U := h.2.2.2.2.2.2.2.2.2.2.2.2.2.2.2.2.2.2.2.2.2.2.2.2.2.2.2.2.2.2.2.2.2.2.2.2.2.2.2.2.2.2.2.2.2.2.2.2.2.2.2.1
theorem ns_f52 {g : Nat → Nat} {A : Nat → Prop} {U : State} {H : Heap} (h : ns_F g A U H) : va_Fw RJx35411 ⟨"java/util/Iterator", "hasNext", "()Z"⟩ yJx35411_hasNext_aae02 U := h.2.2.2.2.2.2.2.2.2.2.2.2.2.2.2.2.2.2.2.2.2.2.2.2.2.2.2.2.2.2.2.2.2.2.2.2.2.2.2.2.2.2.2.2.2.2.2.2.2.2.2.2

set_option maxHeartbeats 16000000 in
theorem ns_call {g : Nat → Nat} {A B : Nat → Prop} {s U : State} {H : Heap} {locs : List Loc} (h : ns_F g A s s.heap) (hS : va_S A s.heap H locs) (hB : ∀ q, B q → A q) (hU : U.heap = H) (hW : s.WarmedH U.vm) : ns_F g B U U.heap := by
  subst hU
  exact ⟨va_Nw.warmM hW (ns_f0 h), va_Nw.warmM hW (ns_f1 h), va_Nw.warmM hW (ns_f2 h), va_Nw.warmM hW (ns_f3 h), va_Nw.warmM hW (ns_f4 h), va_Nw.warmM hW (ns_f5 h), va_Nw.warmM hW (ns_f6 h), va_Nw.warmF hW (ns_f7 h), va_Nw.warmF hW (ns_f8 h), va_Nw.warmF hW (ns_f9 h), va_Nw.warmC hW (ns_f10 h), va_Nw.warmC hW (ns_f11 h), va_Nw.warmD hW (ns_f12 h), va_Nw.warmD hW (ns_f13 h), va_Nw.warmD hW (ns_f14 h), va_Z.moved hW.alike ((va_Z.kept (ns_f15 h) (fun a h1 h2 => hS.2.1 a h1 h2)).narrow hB), va_Z.moved hW.alike ((va_Z.kept (ns_f16 h) (fun a h1 h2 => hS.2.1 a h1 h2)).narrow hB), ((ns_f17 h)).imp (fun z9 => va_Z.moved hW.alike ((va_Z.kept z9 (fun a h1 h2 => hS.2.1 a h1 h2)).narrow hB)) (fun z9 => va_Z.moved hW.alike ((va_Z.kept z9 (fun a h1 h2 => hS.2.1 a h1 h2)).narrow hB)), vx_Zq.moved hW.alike ((vx_Zq.kept (ns_f18 h) (fun a h1 h2 => hS.2.1 a h1 h2)).narrow hB), vx_Zq.moved hW.alike ((vx_Zq.kept (ns_f19 h) (fun a h1 h2 => hS.2.1 a h1 h2)).narrow hB), va_T.moved hW.alike ((va_T.kept (ns_f20 h) (fun a h1 h2 => hS.2.1 a h1 h2)).narrow hB), vk_R.warm hW (ns_f21 h), vk_R.warm hW (ns_f22 h), vk_R.warm hW (ns_f23 h), vk_R.warm hW (ns_f24 h), vk_R.warm hW (ns_f25 h), vk_R.warm hW (ns_f26 h), vk_R.warm hW (ns_f27 h), vk_R.warm hW (ns_f28 h), vk_R.warm hW (ns_f29 h), vk_R.warm hW (ns_f30 h), vk_R.warm hW (ns_f31 h), vk_R.warm hW (ns_f32 h), vk_R.warm hW (ns_f33 h), vk_R.warm hW (ns_f34 h), vk_R.warm hW (ns_f35 h), vk_R.warm hW (ns_f36 h), vk_R.warm hW (ns_f37 h), va_O.moved hW.alike ((va_O.kept (ns_f38 h) (fun a h1 h2 => hS.2.1 a h1 h2)).narrow hB), va_OF.moved hW.alike ((va_OF.kept (ns_f39 h) (fun a h1 h2 => hS.2.1 a h1 h2)).narrow hB), va_OF.moved hW.alike ((va_OF.kept (ns_f40 h) (fun a h1 h2 => hS.2.1 a h1 h2)).narrow hB), va_T.moved hW.alike ((va_T.kept (ns_f41 h) (fun a h1 h2 => hS.2.1 a h1 h2)).narrow hB), va_O.moved hW.alike ((va_O.kept (ns_f42 h) (fun a h1 h2 => hS.2.1 a h1 h2)).narrow hB), va_OF.moved hW.alike ((va_OF.kept (ns_f43 h) (fun a h1 h2 => hS.2.1 a h1 h2)).narrow hB), va_OF.moved hW.alike ((va_OF.kept (ns_f44 h) (fun a h1 h2 => hS.2.1 a h1 h2)).narrow hB), va_T.moved hW.alike ((va_T.kept (ns_f45 h) (fun a h1 h2 => hS.2.1 a h1 h2)).narrow hB), va_O.moved hW.alike ((va_O.kept (ns_f46 h) (fun a h1 h2 => hS.2.1 a h1 h2)).narrow hB), va_OF.moved hW.alike ((va_OF.kept (ns_f47 h) (fun a h1 h2 => hS.2.1 a h1 h2)).narrow hB), va_OF.moved hW.alike ((va_OF.kept (ns_f48 h) (fun a h1 h2 => hS.2.1 a h1 h2)).narrow hB), va_T.moved hW.alike ((va_T.kept (ns_f49 h) (fun a h1 h2 => hS.2.1 a h1 h2)).narrow hB), va_Nw.warmC hW (ns_f50 h), va_AO.moved hW.alike (ns_f51 h), va_Fw.moved (by decide) hW.alike (ns_f52 h)⟩

set_option maxHeartbeats 16000000 in
theorem ns_same {g : Nat → Nat} {A : Nat → Prop} {U : State} {gg : JFrame} {mk : MethodId} {a : Array Value} (h : ns_F g A U U.heap) : ns_F g A (U.calling gg mk a) (U.calling gg mk a).heap := by
  exact ⟨va_Nw.same rfl rfl (ns_f0 h), va_Nw.same rfl rfl (ns_f1 h), va_Nw.same rfl rfl (ns_f2 h), va_Nw.same rfl rfl (ns_f3 h), va_Nw.same rfl rfl (ns_f4 h), va_Nw.same rfl rfl (ns_f5 h), va_Nw.same rfl rfl (ns_f6 h), va_Nw.same rfl rfl (ns_f7 h), va_Nw.same rfl rfl (ns_f8 h), va_Nw.same rfl rfl (ns_f9 h), va_Nw.same rfl rfl (ns_f10 h), va_Nw.same rfl rfl (ns_f11 h), va_Nw.same rfl rfl (ns_f12 h), va_Nw.same rfl rfl (ns_f13 h), va_Nw.same rfl rfl (ns_f14 h), va_Z.moved (Vm.Alike.refl U.vm) (ns_f15 h), va_Z.moved (Vm.Alike.refl U.vm) (ns_f16 h), ((ns_f17 h)).imp (fun z9 => va_Z.moved (Vm.Alike.refl U.vm) z9) (fun z9 => va_Z.moved (Vm.Alike.refl U.vm) z9), vx_Zq.moved (Vm.Alike.refl U.vm) (ns_f18 h), vx_Zq.moved (Vm.Alike.refl U.vm) (ns_f19 h), va_T.moved (Vm.Alike.refl U.vm) (ns_f20 h), vk_R.same rfl (ns_f21 h), vk_R.same rfl (ns_f22 h), vk_R.same rfl (ns_f23 h), vk_R.same rfl (ns_f24 h), vk_R.same rfl (ns_f25 h), vk_R.same rfl (ns_f26 h), vk_R.same rfl (ns_f27 h), vk_R.same rfl (ns_f28 h), vk_R.same rfl (ns_f29 h), vk_R.same rfl (ns_f30 h), vk_R.same rfl (ns_f31 h), vk_R.same rfl (ns_f32 h), vk_R.same rfl (ns_f33 h), vk_R.same rfl (ns_f34 h), vk_R.same rfl (ns_f35 h), vk_R.same rfl (ns_f36 h), vk_R.same rfl (ns_f37 h), va_O.moved (Vm.Alike.refl U.vm) (ns_f38 h), va_OF.moved (Vm.Alike.refl U.vm) (ns_f39 h), va_OF.moved (Vm.Alike.refl U.vm) (ns_f40 h), va_T.moved (Vm.Alike.refl U.vm) (ns_f41 h), va_O.moved (Vm.Alike.refl U.vm) (ns_f42 h), va_OF.moved (Vm.Alike.refl U.vm) (ns_f43 h), va_OF.moved (Vm.Alike.refl U.vm) (ns_f44 h), va_T.moved (Vm.Alike.refl U.vm) (ns_f45 h), va_O.moved (Vm.Alike.refl U.vm) (ns_f46 h), va_OF.moved (Vm.Alike.refl U.vm) (ns_f47 h), va_OF.moved (Vm.Alike.refl U.vm) (ns_f48 h), va_T.moved (Vm.Alike.refl U.vm) (ns_f49 h), va_Nw.same rfl rfl (ns_f50 h), va_AO.moved (Vm.Alike.refl U.vm) (ns_f51 h), va_Fw.moved (by decide) (Vm.Alike.refl U.vm) (ns_f52 h)⟩
