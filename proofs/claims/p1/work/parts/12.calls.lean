
set_option maxHeartbeats 4000000 in
set_option maxRecDepth 100000 in
theorem ns_say_6_3 {p : Program} {l : Launch} {e : Env} {s : State} {m : MethodId} {args : Array Value} {below : List Frame} {meth : Method} {c : Code} {dC : Nat → ClassId} {dI : Nat → Nat → Nat} {g : Nat → Nat} {A : Nat → Prop} {Q : State → Prop} {h0 : Nat} {x0 : Int32} {x1 : Int32} {x2 : Int32} {x3 : Int32} {x4 : Int32} {x5 : Int32} {v1 : Value} {v2 : Value} {v3 : Value} {v4 : Value} {v5 : Value} {v6 : Value} {v7 : Value} {q1 : Nat} {cyq1 : ClassId} {t9 b9 : Nat} {cb9 : ClassId} {fb9 : Nat → Int32} (hb9 : sb_Fit fb9) {H : Heap} {locs : List Loc} {ls : Array Slot} {E9 : Int32} (hE : E9 = 3) (ex0 : (-1 : Int) ≤ x0.toInt ∧ x0.toInt ≤ (21 : Int)) (ex1 : (-1 : Int) ≤ x1.toInt ∧ x1.toInt ≤ (21 : Int)) (ex2 : (-1 : Int) ≤ x2.toInt ∧ x2.toInt ≤ (21 : Int)) (ex3 : (-1 : Int) ≤ x3.toInt ∧ x3.toInt ≤ (21 : Int)) (ex4 : (-1 : Int) ≤ x4.toInt ∧ x4.toInt ≤ (21 : Int)) (ex5 : (-1 : Int) ≤ x5.toInt ∧ x5.toInt ≤ (21 : Int)) (hx : p.tables.exec = Jvm.exec) (hb : c.code = cX16_say) (hml : c.maxLocals = 14) (hown : s.vm.findClass RX16 = some m.cls) (hts : ∀ w ∈ wbX16_say, w.before args s = true) (hA : ∀ q : Nat, s.heap.size ≤ q → A q) (hF : ns_F g A s s.heap) (hK : va_K (dC, dI) vwCl [(cyq1, .int), (cb9, .byte)] s) (hP : va_P (dC, dI) vwCl [(h0, .inr (23, [.int 0, v1, v2, v3, .ref (g 34), v4, v5, v6, v7])), (q1, .inl (cyq1, 6, .inl (upd (upd (upd (upd (upd (upd (fun _ => 0) 0 x0) 1 x1) 2 x2) 3 x3) 4 x4) 5 x5))), (t9, .inr (0, [.ref b9, .int 0, .int 0, .int 0])), (b9, .inl (cb9, 3, .inl fb9))] H) (hD : va_D A [(h0, .inr (23, [.int 0, v1, v2, v3, .ref (g 34), v4, v5, v6, v7])), (q1, .inl (cyq1, 6, .inl (upd (upd (upd (upd (upd (upd (fun _ => 0) 0 x0) 1 x1) 2 x2) 3 x3) 4 x4) 5 x5))), (t9, .inr (0, [.ref b9, .int 0, .int 0, .int 0])), (b9, .inl (cb9, 3, .inl fb9))]) (hS : va_S A s.heap H locs) (hl : lv_has ls 14 [(12, .int 6), (11, .int 6), (10, .ref q1), (9, .ref t9), (0, .ref h0)]) (k09 : ∀ (H : Heap) (locs : List Loc) (ls : Array Slot), E9 = 0 → va_K (dC, dI) vwCl [(cyq1, .int)] s → va_P (dC, dI) vwCl [(h0, .inr (23, [.int 0, v1, v2, v3, .ref (g 34), v4, v5, v6, v7])), (q1, .inl (cyq1, 6, .inl (upd (upd (upd (upd (upd (upd (fun _ => 0) 0 x0) 1 x1) 2 x2) 3 x3) 4 x4) 5 x5)))] H → va_D A [(h0, .inr (23, [.int 0, v1, v2, v3, .ref (g 34), v4, v5, v6, v7])), (q1, .inl (cyq1, 6, .inl (upd (upd (upd (upd (upd (upd (fun _ => 0) 0 x0) 1 x1) 2 x2) 3 x3) 4 x4) 5 x5)))] → va_S A s.heap H locs → lv_has ls 14 [(9, .ref (g 34)), (0, .ref h0)] → W p l e ({ frames := 7, cells := 37, slots := 246, locals := 172 } : Room) s m args below meth c H locs 37 246 Q (F0 m 173 ls [])) (k19 : ∀ (t9 b9 : Nat) (cb9 : ClassId) (fb9 : Nat → Int32) (hb9 : sb_Fit fb9), ∀ (H : Heap) (locs : List Loc) (ls : Array Slot), E9 = 1 → va_K (dC, dI) vwCl [(cyq1, .int), (cb9, .byte)] s → va_P (dC, dI) vwCl [(h0, .inr (23, [.int 0, v1, v2, v3, .ref (g 34), v4, v5, v6, v7])), (q1, .inl (cyq1, 6, .inl (upd (upd (upd (upd (upd (upd (fun _ => 0) 0 x0) 1 x1) 2 x2) 3 x3) 4 x4) 5 x5))), (t9, .inr (0, [.ref b9, .int 0, .int 0, .int 0])), (b9, .inl (cb9, 1, .inl fb9))] H → va_D A [(h0, .inr (23, [.int 0, v1, v2, v3, .ref (g 34), v4, v5, v6, v7])), (q1, .inl (cyq1, 6, .inl (upd (upd (upd (upd (upd (upd (fun _ => 0) 0 x0) 1 x1) 2 x2) 3 x3) 4 x4) 5 x5))), (t9, .inr (0, [.ref b9, .int 0, .int 0, .int 0])), (b9, .inl (cb9, 1, .inl fb9))] → va_S A s.heap H locs → lv_has ls 14 [(9, .ref t9), (0, .ref h0)] → W p l e ({ frames := 7, cells := 37, slots := 246, locals := 172 } : Room) s m args below meth c H locs 37 246 Q (F0 m 173 ls [])) (k29 : ∀ (t9 b9 : Nat) (cb9 : ClassId) (fb9 : Nat → Int32) (hb9 : sb_Fit fb9), ∀ (H : Heap) (locs : List Loc) (ls : Array Slot), E9 = 2 → va_K (dC, dI) vwCl [(cyq1, .int), (cb9, .byte)] s → va_P (dC, dI) vwCl [(h0, .inr (23, [.int 0, v1, v2, v3, .ref (g 34), v4, v5, v6, v7])), (q1, .inl (cyq1, 6, .inl (upd (upd (upd (upd (upd (upd (fun _ => 0) 0 x0) 1 x1) 2 x2) 3 x3) 4 x4) 5 x5))), (t9, .inr (0, [.ref b9, .int 0, .int 0, .int 0])), (b9, .inl (cb9, 2, .inl fb9))] H → va_D A [(h0, .inr (23, [.int 0, v1, v2, v3, .ref (g 34), v4, v5, v6, v7])), (q1, .inl (cyq1, 6, .inl (upd (upd (upd (upd (upd (upd (fun _ => 0) 0 x0) 1 x1) 2 x2) 3 x3) 4 x4) 5 x5))), (t9, .inr (0, [.ref b9, .int 0, .int 0, .int 0])), (b9, .inl (cb9, 2, .inl fb9))] → va_S A s.heap H locs → lv_has ls 14 [(9, .ref t9), (0, .ref h0)] → W p l e ({ frames := 7, cells := 37, slots := 246, locals := 172 } : Room) s m args below meth c H locs 37 246 Q (F0 m 173 ls [])) (k39 : ∀ (t9 b9 : Nat) (cb9 : ClassId) (fb9 : Nat → Int32) (hb9 : sb_Fit fb9), ∀ (H : Heap) (locs : List Loc) (ls : Array Slot), E9 = 3 → va_K (dC, dI) vwCl [(cyq1, .int), (cb9, .byte)] s → va_P (dC, dI) vwCl [(h0, .inr (23, [.int 0, v1, v2, v3, .ref (g 34), v4, v5, v6, v7])), (q1, .inl (cyq1, 6, .inl (upd (upd (upd (upd (upd (upd (fun _ => 0) 0 x0) 1 x1) 2 x2) 3 x3) 4 x4) 5 x5))), (t9, .inr (0, [.ref b9, .int 0, .int 0, .int 0])), (b9, .inl (cb9, 3, .inl fb9))] H → va_D A [(h0, .inr (23, [.int 0, v1, v2, v3, .ref (g 34), v4, v5, v6, v7])), (q1, .inl (cyq1, 6, .inl (upd (upd (upd (upd (upd (upd (fun _ => 0) 0 x0) 1 x1) 2 x2) 3 x3) 4 x4) 5 x5))), (t9, .inr (0, [.ref b9, .int 0, .int 0, .int 0])), (b9, .inl (cb9, 3, .inl fb9))] → va_S A s.heap H locs → lv_has ls 14 [(9, .ref t9), (0, .ref h0)] → W p l e ({ frames := 7, cells := 37, slots := 246, locals := 172 } : Room) s m args below meth c H locs 37 246 Q (F0 m 173 ls [])) (k49 : ∀ (t9 b9 : Nat) (cb9 : ClassId) (fb9 : Nat → Int32) (hb9 : sb_Fit fb9), ∀ (H : Heap) (locs : List Loc) (ls : Array Slot), E9 = 4 → va_K (dC, dI) vwCl [(cyq1, .int), (cb9, .byte)] s → va_P (dC, dI) vwCl [(h0, .inr (23, [.int 0, v1, v2, v3, .ref (g 34), v4, v5, v6, v7])), (q1, .inl (cyq1, 6, .inl (upd (upd (upd (upd (upd (upd (fun _ => 0) 0 x0) 1 x1) 2 x2) 3 x3) 4 x4) 5 x5))), (t9, .inr (0, [.ref b9, .int 0, .int 0, .int 0])), (b9, .inl (cb9, 4, .inl fb9))] H → va_D A [(h0, .inr (23, [.int 0, v1, v2, v3, .ref (g 34), v4, v5, v6, v7])), (q1, .inl (cyq1, 6, .inl (upd (upd (upd (upd (upd (upd (fun _ => 0) 0 x0) 1 x1) 2 x2) 3 x3) 4 x4) 5 x5))), (t9, .inr (0, [.ref b9, .int 0, .int 0, .int 0])), (b9, .inl (cb9, 4, .inl fb9))] → va_S A s.heap H locs → lv_has ls 14 [(9, .ref t9), (0, .ref h0)] → W p l e ({ frames := 7, cells := 37, slots := 246, locals := 172 } : Room) s m args below meth c H locs 37 246 Q (F0 m 173 ls [])) (k59 : ∀ (t9 b9 : Nat) (cb9 : ClassId) (fb9 : Nat → Int32) (hb9 : sb_Fit fb9), ∀ (H : Heap) (locs : List Loc) (ls : Array Slot), E9 = 5 → va_K (dC, dI) vwCl [(cyq1, .int), (cb9, .byte)] s → va_P (dC, dI) vwCl [(h0, .inr (23, [.int 0, v1, v2, v3, .ref (g 34), v4, v5, v6, v7])), (q1, .inl (cyq1, 6, .inl (upd (upd (upd (upd (upd (upd (fun _ => 0) 0 x0) 1 x1) 2 x2) 3 x3) 4 x4) 5 x5))), (t9, .inr (0, [.ref b9, .int 0, .int 0, .int 0])), (b9, .inl (cb9, 5, .inl fb9))] H → va_D A [(h0, .inr (23, [.int 0, v1, v2, v3, .ref (g 34), v4, v5, v6, v7])), (q1, .inl (cyq1, 6, .inl (upd (upd (upd (upd (upd (upd (fun _ => 0) 0 x0) 1 x1) 2 x2) 3 x3) 4 x4) 5 x5))), (t9, .inr (0, [.ref b9, .int 0, .int 0, .int 0])), (b9, .inl (cb9, 5, .inl fb9))] → va_S A s.heap H locs → lv_has ls 14 [(9, .ref t9), (0, .ref h0)] → W p l e ({ frames := 7, cells := 37, slots := 246, locals := 172 } : Room) s m args below meth c H locs 37 246 Q (F0 m 173 ls [])) (k69 : ∀ (t9 b9 : Nat) (cb9 : ClassId) (fb9 : Nat → Int32) (hb9 : sb_Fit fb9), ∀ (H : Heap) (locs : List Loc) (ls : Array Slot), E9 = 6 → va_K (dC, dI) vwCl [(cyq1, .int), (cb9, .byte)] s → va_P (dC, dI) vwCl [(h0, .inr (23, [.int 0, v1, v2, v3, .ref (g 34), v4, v5, v6, v7])), (q1, .inl (cyq1, 6, .inl (upd (upd (upd (upd (upd (upd (fun _ => 0) 0 x0) 1 x1) 2 x2) 3 x3) 4 x4) 5 x5))), (t9, .inr (0, [.ref b9, .int 0, .int 0, .int 0])), (b9, .inl (cb9, 6, .inl fb9))] H → va_D A [(h0, .inr (23, [.int 0, v1, v2, v3, .ref (g 34), v4, v5, v6, v7])), (q1, .inl (cyq1, 6, .inl (upd (upd (upd (upd (upd (upd (fun _ => 0) 0 x0) 1 x1) 2 x2) 3 x3) 4 x4) 5 x5))), (t9, .inr (0, [.ref b9, .int 0, .int 0, .int 0])), (b9, .inl (cb9, 6, .inl fb9))] → va_S A s.heap H locs → lv_has ls 14 [(9, .ref t9), (0, .ref h0)] → W p l e ({ frames := 7, cells := 37, slots := 246, locals := 172 } : Room) s m args below meth c H locs 37 246 Q (F0 m 173 ls [])) : W p l e ({ frames := 7, cells := 37, slots := 246, locals := 172 } : Room) s m args below meth c H locs 37 246 Q (F0 m 119 ls []) := by
  have hta : ∀ w ∈ wsALL, w.before args s = true := fun w h => hts w (List.mem_cons_of_mem _ h)
  refine lv_iload hx hb dX16_say_119 (lv_at hl 0 rfl) ?_
  refine lv_iload hx hb dX16_say_121 (lv_at hl 1 rfl) ?_
  refine lv_icmp_ge (tgt := 173) hx hb dX16_say_123 (by decide) (fun c1001 => ?_) (fun c1001 => absurd (by decide) c1001)
  have hP := hP.sub (ws' := [(h0, .inr (23, [.int 0, v1, v2, v3, .ref (g 34), v4, v5, v6, v7])), (q1, .inl (cyq1, 6, .inl (upd (upd (upd (upd (upd (upd (fun _ => 0) 0 x0) 1 x1) 2 x2) 3 x3) 4 x4) 5 x5))), (t9, .inr (0, [.ref b9, .int 0, .int 0, .int 0])), (b9, .inl (cb9, 3, .inl fb9))]) [0, 1, 2, 3] rfl
  have hD := hD.sub (ws' := [(h0, .inr (23, [.int 0, v1, v2, v3, .ref (g 34), v4, v5, v6, v7])), (q1, .inl (cyq1, 6, .inl (upd (upd (upd (upd (upd (upd (fun _ => 0) 0 x0) 1 x1) 2 x2) 3 x3) 4 x4) 5 x5))), (t9, .inr (0, [.ref b9, .int 0, .int 0, .int 0])), (b9, .inl (cb9, 3, .inl fb9))]) [0, 1, 2, 3] (by decide) rfl
  have hK := hK.sub (tys' := [(cyq1, .int), (cb9, .byte)]) [0, 1] rfl
  have hl := lv_sub hl (l' := [(9, .ref t9), (0, .ref h0)]) [3, 4] rfl
  refine W.widen (k := 37) (n := 246) (Nat.le_of_ble_eq_true rfl) (Nat.le_of_ble_eq_true rfl) ?_
  exact k39 _ _ _ _ hb9 _ _ _ hE hK hP hD hS hl
set_option maxHeartbeats 4000000 in
set_option maxRecDepth 100000 in
theorem kX4_add_7 (l : Launch) (dC : Nat → ClassId) (dI : Nat → Nat → Nat) (g : Nat → Nat) (sz : Nat) (h0 : Nat) (x0 : Int32) (h1 : Nat) (cc0 : ClassId) (f0 : Nat → Int32) (ex0 : (97 : Int) ≤ x0.toInt ∧ x0.toInt ≤ (122 : Int)) : Met l yX4_add wbX4_add ({ frames := 0, cells := 0, slots := 0, locals := 0 }) (va_Pc [.ref h0, .int x0] (fun U => U.heap.size = sz ∧ va_P (dC, dI) vwCl [(h0, .inr (11, [.ref h1, .int 2])), (h1, .inl (cc0, 4960, .inl f0))] U.heap ∧ va_K (dC, dI) vwCl [(cc0, .int)] U ∧ va_D (fun _ => True) [(h0, .inr (11, [.ref h1, .int 2])), (h1, .inl (cc0, 4960, .inl f0))] ∧ ns_F g (va_A [(h0, .inr (11, [.ref h1, .int 2])), (h1, .inl (cc0, 4960, .inl f0))] sz) U U.heap)) (va_Qv (fun _ : Unit => True) (fun _ t => va_P (dC, dI) vwCl [(h0, .inr (11, [.ref h1, .int 3])), (h1, .inl (cc0, 4960, .inl (upd (f0) 2 x0)))] t.heap ∧ va_K (dC, dI) vwCl [(cc0, .int)] t ∧ va_D (va_A [(h0, .inr (11, [.ref h1, .int 2])), (h1, .inl (cc0, 4960, .inl f0))] sz) [(h0, .inr (11, [.ref h1, .int 3])), (h1, .inl (cc0, 4960, .inl (upd (f0) 2 x0)))]) (va_A [(h0, .inr (11, [.ref h1, .int 2])), (h1, .inl (cc0, 4960, .inl f0))] sz)) 0 0 (va_A [(h0, .inr (11, [.ref h1, .int 2])), (h1, .inl (cc0, 4960, .inl f0))] sz) := by
  refine Met.ofW (cc := cX4_add) (maxL := 2) (ret := none) (by decide) rfl ?_
  intro p e s m args below meth c s₁ B hml hv
  obtain ⟨rfl, hsz, hP, hK, hD0, hF⟩ := hv
  have hx := B.exec
  have hb := B.bytes
  have hr := B.returns
  have hts := atoms_spec (ws := wbX4_add) B.pre
  have hta : ∀ w ∈ wsALL, w.before _ s = true := fun w h => hts w (List.mem_cons_of_mem _ h)
  have hown : s.vm.findClass RX4 = some m.cls := findClass_of_methodNamed B.named
  have hlocks := B.notSynchronized
  subst hsz
  have hD := hD0.self (sz := s.heap.size)
  generalize hAe : va_A [(h0, .inr (11, [.ref h1, .int 2])), (h1, .inl (cc0, 4960, .inl f0))] s.heap.size = A at hD hF ⊢
  have hA : ∀ q : Nat, s.heap.size ≤ q → A q := fun q h => by rw [← hAe]; exact Or.inr h
  have hS : va_S A s.heap s.heap [] := va_S.rf
  have hP : va_P (dC, dI) vwCl [(h0, .inr (11, [.ref h1, .int 2])), (h1, .inl (cc0, 4960, .inl f0))] s.heap := hP
  have hl := lv_entry ([.ref h0, .int x0]) (n := 2) (Nat.le_of_ble_eq_true rfl)
  rw [lg_entry_eq]
  generalize (lg_sl ([.ref h0, .int x0]) ++ List.replicate (2 - (lg_sl ([.ref h0, .int x0])).length) Slot.unset).toArray = ls at hl ⊢
  have hl : lv_has ls 2 [(0, .ref h0), (1, .int x0)] := hl
  refine lv_aload_n hx hb dX4_add_0 rfl (lv_at hl 0 rfl) ?_
  refine va_get (D := (dC, dI)) (ci := 11) (v := .int 2) (C := RX4) (T := TX4) (N := 2) hx hb hta naX4 hown hK hP 0 rfl rfl 1 (by decide) (hta _ wm14) (fun _ h9 => h9) rfl dX4_add_1 ?_
  refine lv_if_lt (tgt := 39) hx hb dX4_add_4 (by decide) (fun c1 => absurd c1 (by decide)) (fun c1 => ?_)
  refine lv_aload_n hx hb dX4_add_7 rfl (lv_at hl 0 rfl) ?_
  refine va_get (D := (dC, dI)) (ci := 11) (v := .int 2) (C := RX4) (T := TX4) (N := 2) hx hb hta naX4 hown hK hP 0 rfl rfl 1 (by decide) (hta _ wm14) (fun _ h9 => h9) rfl dX4_add_8 ?_
  refine lv_aload_n hx hb dX4_add_11 rfl (lv_at hl 0 rfl) ?_
  refine va_get (D := (dC, dI)) (ci := 11) (v := .ref h1) (C := RX4) (T := TX4) (N := 2) hx hb hta naX4 hown hK hP 0 rfl rfl 0 (by decide) (hta _ wm16) (fun _ h9 => h9) rfl dX4_add_12 ?_
  refine va_alen (v := 4960) hx hb hK hP 1 0 rfl rfl (show Int32.ofNat 4960 = 4960 by decide) dX4_add_15 ?_
  refine lv_icmp_ge (tgt := 39) hx hb dX4_add_16 (by decide) (fun c2 => absurd c2 (by decide)) (fun c2 => ?_)
  refine lv_aload_n hx hb dX4_add_19 rfl (lv_at hl 0 rfl) ?_
  refine va_get (D := (dC, dI)) (ci := 11) (v := .ref h1) (C := RX4) (T := TX4) (N := 2) hx hb hta naX4 hown hK hP 0 rfl rfl 0 (by decide) (hta _ wm16) (fun _ h9 => h9) rfl dX4_add_20 ?_
  refine lv_aload_n hx hb dX4_add_23 rfl (lv_at hl 0 rfl) ?_
  refine va_get (D := (dC, dI)) (ci := 11) (v := .int 2) (C := RX4) (T := TX4) (N := 2) hx hb hta naX4 hown hK hP 0 rfl rfl 1 (by decide) (hta _ wm14) (fun _ h9 => h9) rfl dX4_add_24 ?_
  refine lv_iload_n hx hb dX4_add_27 rfl (lv_at hl 1 rfl) ?_
  refine va_iast hx hb hK hP hD hS 1 0 rfl rfl (vp_in_nI (n := 2) (by decide) (by decide)) dX4_add_28 (fun H locs hP hD hS => ?_)
  have hP : va_P (dC, dI) vwCl [(h0, .inr (11, [.ref h1, .int 2])), (h1, .inl (cc0, 4960, .inl (upd (f0) 2 x0)))] H := hP
  have hD : va_D A [(h0, .inr (11, [.ref h1, .int 2])), (h1, .inl (cc0, 4960, .inl (upd (f0) 2 x0)))] := hD
  refine lv_aload_n hx hb dX4_add_29 rfl (lv_at hl 0 rfl) ?_
  refine lv_dup hx hb dX4_add_30 rfl ?_
  refine va_get (D := (dC, dI)) (ci := 11) (v := .int 2) (C := RX4) (T := TX4) (N := 2) hx hb hta naX4 hown hK hP 0 rfl rfl 1 (by decide) (hta _ wm14) (fun _ h9 => h9) rfl dX4_add_31 ?_
  refine lv_iconst (v := 1) hx hb dX4_add_34 (by decide) ?_
  refine lv_iadd hx hb dX4_add_35 ?_
  refine lv_topi (fun y3 ey3 => ?_)
  obtain rfl : y3 = 3 := ey3.trans (by decide)
  refine va_put (D := (dC, dI)) (ci := 11) (v := .int 3) (ty := .int) (C := RX4) (T := TX4) (N := 2) hx hb hta naX4 tyX4 tyX4_ok nmX4 hown hK hP hD hS 0 rfl rfl 1 (by decide) (hta _ wm14) (fun _ h9 => h9) rfl (by decide +kernel) rfl rfl (Nat.le_of_ble_eq_true rfl) dX4_add_36 (fun H locs hP hD hS => ?_)
  have hP : va_P (dC, dI) vwCl [(h0, .inr (11, [.ref h1, .int 3])), (h1, .inl (cc0, 4960, .inl (upd (f0) 2 x0)))] H := hP
  have hD : va_D A [(h0, .inr (11, [.ref h1, .int 3])), (h1, .inl (cc0, 4960, .inl (upd (f0) 2 x0)))] := hD
  have hP9 := hP.sub (ws' := [(h0, .inr (11, [.ref h1, .int 3])), (h1, .inl (cc0, 4960, .inl (upd (f0) 2 x0)))]) [0, 1] rfl
  have hD9 := hD.sub (ws' := [(h0, .inr (11, [.ref h1, .int 3])), (h1, .inl (cc0, 4960, .inl (upd (f0) 2 x0)))]) [0, 1] (by decide) rfl
  have hK9 := hK.sub (tys' := [(cc0, .int)]) [0] rfl
  refine W.widen (k := 0) (n := 0) (Nat.le_of_ble_eq_true rfl) (Nat.le_of_ble_eq_true rfl) ?_
  exact W.vret hx hb hr (fun t ht hW => ⟨⟨(), rfl, trivial, by rw [ht]; exact hP9, va_K.moved hW.alike hK9, hD9⟩, hS.F ht⟩) hS.2.2 dX4_add_39
set_option maxHeartbeats 4000000 in
set_option maxRecDepth 100000 in
theorem kX4_add_47 (l : Launch) (dC : Nat → ClassId) (dI : Nat → Nat → Nat) (g : Nat → Nat) (sz : Nat) (h0 : Nat) (x0 : Int32) (h1 : Nat) (cc0 : ClassId) (f0 : Nat → Int32) (ex0 : (22 : Int) ≤ x0.toInt ∧ x0.toInt ≤ (2147483647 : Int)) : Met l yX4_add wbX4_add ({ frames := 0, cells := 0, slots := 0, locals := 0 }) (va_Pc [.ref h0, .int x0] (fun U => U.heap.size = sz ∧ va_P (dC, dI) vwCl [(h0, .inr (11, [.ref h1, .int 3])), (h1, .inl (cc0, 6, .inl f0))] U.heap ∧ va_K (dC, dI) vwCl [(cc0, .int)] U ∧ va_D (fun _ => True) [(h0, .inr (11, [.ref h1, .int 3])), (h1, .inl (cc0, 6, .inl f0))] ∧ ns_F g (va_A [(h0, .inr (11, [.ref h1, .int 3])), (h1, .inl (cc0, 6, .inl f0))] sz) U U.heap)) (va_Qv (fun _ : Unit => True) (fun _ t => va_P (dC, dI) vwCl [(h0, .inr (11, [.ref h1, .int 4])), (h1, .inl (cc0, 6, .inl (upd (f0) 3 x0)))] t.heap ∧ va_K (dC, dI) vwCl [(cc0, .int)] t ∧ va_D (va_A [(h0, .inr (11, [.ref h1, .int 3])), (h1, .inl (cc0, 6, .inl f0))] sz) [(h0, .inr (11, [.ref h1, .int 4])), (h1, .inl (cc0, 6, .inl (upd (f0) 3 x0)))]) (va_A [(h0, .inr (11, [.ref h1, .int 3])), (h1, .inl (cc0, 6, .inl f0))] sz)) 0 0 (va_A [(h0, .inr (11, [.ref h1, .int 3])), (h1, .inl (cc0, 6, .inl f0))] sz) := by
  refine Met.ofW (cc := cX4_add) (maxL := 2) (ret := none) (by decide) rfl ?_
  intro p e s m args below meth c s₁ B hml hv
  obtain ⟨rfl, hsz, hP, hK, hD0, hF⟩ := hv
  have hx := B.exec
  have hb := B.bytes
  have hr := B.returns
  have hts := atoms_spec (ws := wbX4_add) B.pre
  have hta : ∀ w ∈ wsALL, w.before _ s = true := fun w h => hts w (List.mem_cons_of_mem _ h)
  have hown : s.vm.findClass RX4 = some m.cls := findClass_of_methodNamed B.named
  have hlocks := B.notSynchronized
  subst hsz
  have hD := hD0.self (sz := s.heap.size)
  generalize hAe : va_A [(h0, .inr (11, [.ref h1, .int 3])), (h1, .inl (cc0, 6, .inl f0))] s.heap.size = A at hD hF ⊢
  have hA : ∀ q : Nat, s.heap.size ≤ q → A q := fun q h => by rw [← hAe]; exact Or.inr h
  have hS : va_S A s.heap s.heap [] := va_S.rf
  have hP : va_P (dC, dI) vwCl [(h0, .inr (11, [.ref h1, .int 3])), (h1, .inl (cc0, 6, .inl f0))] s.heap := hP
  have hl := lv_entry ([.ref h0, .int x0]) (n := 2) (Nat.le_of_ble_eq_true rfl)
  rw [lg_entry_eq]
  generalize (lg_sl ([.ref h0, .int x0]) ++ List.replicate (2 - (lg_sl ([.ref h0, .int x0])).length) Slot.unset).toArray = ls at hl ⊢
  have hl : lv_has ls 2 [(0, .ref h0), (1, .int x0)] := hl
  refine lv_aload_n hx hb dX4_add_0 rfl (lv_at hl 0 rfl) ?_
  refine va_get (D := (dC, dI)) (ci := 11) (v := .int 3) (C := RX4) (T := TX4) (N := 2) hx hb hta naX4 hown hK hP 0 rfl rfl 1 (by decide) (hta _ wm14) (fun _ h9 => h9) rfl dX4_add_1 ?_
  refine lv_if_lt (tgt := 39) hx hb dX4_add_4 (by decide) (fun c1 => absurd c1 (by decide)) (fun c1 => ?_)
  refine lv_aload_n hx hb dX4_add_7 rfl (lv_at hl 0 rfl) ?_
  refine va_get (D := (dC, dI)) (ci := 11) (v := .int 3) (C := RX4) (T := TX4) (N := 2) hx hb hta naX4 hown hK hP 0 rfl rfl 1 (by decide) (hta _ wm14) (fun _ h9 => h9) rfl dX4_add_8 ?_
  refine lv_aload_n hx hb dX4_add_11 rfl (lv_at hl 0 rfl) ?_
  refine va_get (D := (dC, dI)) (ci := 11) (v := .ref h1) (C := RX4) (T := TX4) (N := 2) hx hb hta naX4 hown hK hP 0 rfl rfl 0 (by decide) (hta _ wm16) (fun _ h9 => h9) rfl dX4_add_12 ?_
  refine va_alen (v := 6) hx hb hK hP 1 0 rfl rfl (show Int32.ofNat 6 = 6 by decide) dX4_add_15 ?_
  refine lv_icmp_ge (tgt := 39) hx hb dX4_add_16 (by decide) (fun c2 => absurd c2 (by decide)) (fun c2 => ?_)
  refine lv_aload_n hx hb dX4_add_19 rfl (lv_at hl 0 rfl) ?_
  refine va_get (D := (dC, dI)) (ci := 11) (v := .ref h1) (C := RX4) (T := TX4) (N := 2) hx hb hta naX4 hown hK hP 0 rfl rfl 0 (by decide) (hta _ wm16) (fun _ h9 => h9) rfl dX4_add_20 ?_
  refine lv_aload_n hx hb dX4_add_23 rfl (lv_at hl 0 rfl) ?_
  refine va_get (D := (dC, dI)) (ci := 11) (v := .int 3) (C := RX4) (T := TX4) (N := 2) hx hb hta naX4 hown hK hP 0 rfl rfl 1 (by decide) (hta _ wm14) (fun _ h9 => h9) rfl dX4_add_24 ?_
  refine lv_iload_n hx hb dX4_add_27 rfl (lv_at hl 1 rfl) ?_
  refine va_iast hx hb hK hP hD hS 1 0 rfl rfl (vp_in_nI (n := 3) (by decide) (by decide)) dX4_add_28 (fun H locs hP hD hS => ?_)
  have hP : va_P (dC, dI) vwCl [(h0, .inr (11, [.ref h1, .int 3])), (h1, .inl (cc0, 6, .inl (upd (f0) 3 x0)))] H := hP
  have hD : va_D A [(h0, .inr (11, [.ref h1, .int 3])), (h1, .inl (cc0, 6, .inl (upd (f0) 3 x0)))] := hD
  refine lv_aload_n hx hb dX4_add_29 rfl (lv_at hl 0 rfl) ?_
  refine lv_dup hx hb dX4_add_30 rfl ?_
  refine va_get (D := (dC, dI)) (ci := 11) (v := .int 3) (C := RX4) (T := TX4) (N := 2) hx hb hta naX4 hown hK hP 0 rfl rfl 1 (by decide) (hta _ wm14) (fun _ h9 => h9) rfl dX4_add_31 ?_
  refine lv_iconst (v := 1) hx hb dX4_add_34 (by decide) ?_
  refine lv_iadd hx hb dX4_add_35 ?_
  refine lv_topi (fun y3 ey3 => ?_)
  obtain rfl : y3 = 4 := ey3.trans (by decide)
  refine va_put (D := (dC, dI)) (ci := 11) (v := .int 4) (ty := .int) (C := RX4) (T := TX4) (N := 2) hx hb hta naX4 tyX4 tyX4_ok nmX4 hown hK hP hD hS 0 rfl rfl 1 (by decide) (hta _ wm14) (fun _ h9 => h9) rfl (by decide +kernel) rfl rfl (Nat.le_of_ble_eq_true rfl) dX4_add_36 (fun H locs hP hD hS => ?_)
  have hP : va_P (dC, dI) vwCl [(h0, .inr (11, [.ref h1, .int 4])), (h1, .inl (cc0, 6, .inl (upd (f0) 3 x0)))] H := hP
  have hD : va_D A [(h0, .inr (11, [.ref h1, .int 4])), (h1, .inl (cc0, 6, .inl (upd (f0) 3 x0)))] := hD
  have hP9 := hP.sub (ws' := [(h0, .inr (11, [.ref h1, .int 4])), (h1, .inl (cc0, 6, .inl (upd (f0) 3 x0)))]) [0, 1] rfl
  have hD9 := hD.sub (ws' := [(h0, .inr (11, [.ref h1, .int 4])), (h1, .inl (cc0, 6, .inl (upd (f0) 3 x0)))]) [0, 1] (by decide) rfl
  have hK9 := hK.sub (tys' := [(cc0, .int)]) [0] rfl
  refine W.widen (k := 0) (n := 0) (Nat.le_of_ble_eq_true rfl) (Nat.le_of_ble_eq_true rfl) ?_
  exact W.vret hx hb hr (fun t ht hW => ⟨⟨(), rfl, trivial, by rw [ht]; exact hP9, va_K.moved hW.alike hK9, hD9⟩, hS.F ht⟩) hS.2.2 dX4_add_39
set_option maxHeartbeats 4000000 in
set_option maxRecDepth 100000 in
theorem kX4_add_18 (l : Launch) (dC : Nat → ClassId) (dI : Nat → Nat → Nat) (g : Nat → Nat) (sz : Nat) (h0 : Nat) (h1 : Nat) (cc0 : ClassId) (f0 : Nat → Int32) : Met l yX4_add wbX4_add ({ frames := 0, cells := 0, slots := 0, locals := 0 }) (va_Pc [.ref h0, .int 8] (fun U => U.heap.size = sz ∧ va_P (dC, dI) vwCl [(h0, .inr (11, [.ref h1, .int 0])), (h1, .inl (cc0, 4960, .inl f0))] U.heap ∧ va_K (dC, dI) vwCl [(cc0, .int)] U ∧ va_D (fun _ => True) [(h0, .inr (11, [.ref h1, .int 0])), (h1, .inl (cc0, 4960, .inl f0))] ∧ ns_F g (va_A [(h0, .inr (11, [.ref h1, .int 0])), (h1, .inl (cc0, 4960, .inl f0))] sz) U U.heap)) (va_Qv (fun _ : Unit => True) (fun _ t => va_P (dC, dI) vwCl [(h0, .inr (11, [.ref h1, .int 1])), (h1, .inl (cc0, 4960, .inl (upd (f0) 0 8)))] t.heap ∧ va_K (dC, dI) vwCl [(cc0, .int)] t ∧ va_D (va_A [(h0, .inr (11, [.ref h1, .int 0])), (h1, .inl (cc0, 4960, .inl f0))] sz) [(h0, .inr (11, [.ref h1, .int 1])), (h1, .inl (cc0, 4960, .inl (upd (f0) 0 8)))]) (va_A [(h0, .inr (11, [.ref h1, .int 0])), (h1, .inl (cc0, 4960, .inl f0))] sz)) 0 0 (va_A [(h0, .inr (11, [.ref h1, .int 0])), (h1, .inl (cc0, 4960, .inl f0))] sz) := by
  refine Met.ofW (cc := cX4_add) (maxL := 2) (ret := none) (by decide) rfl ?_
  intro p e s m args below meth c s₁ B hml hv
  obtain ⟨rfl, hsz, hP, hK, hD0, hF⟩ := hv
  have hx := B.exec
  have hb := B.bytes
  have hr := B.returns
  have hts := atoms_spec (ws := wbX4_add) B.pre
  have hta : ∀ w ∈ wsALL, w.before _ s = true := fun w h => hts w (List.mem_cons_of_mem _ h)
  have hown : s.vm.findClass RX4 = some m.cls := findClass_of_methodNamed B.named
  have hlocks := B.notSynchronized
  subst hsz
  have hD := hD0.self (sz := s.heap.size)
  generalize hAe : va_A [(h0, .inr (11, [.ref h1, .int 0])), (h1, .inl (cc0, 4960, .inl f0))] s.heap.size = A at hD hF ⊢
  have hA : ∀ q : Nat, s.heap.size ≤ q → A q := fun q h => by rw [← hAe]; exact Or.inr h
  have hS : va_S A s.heap s.heap [] := va_S.rf
  have hP : va_P (dC, dI) vwCl [(h0, .inr (11, [.ref h1, .int 0])), (h1, .inl (cc0, 4960, .inl f0))] s.heap := hP
  have hl := lv_entry ([.ref h0, .int 8]) (n := 2) (Nat.le_of_ble_eq_true rfl)
  rw [lg_entry_eq]
  generalize (lg_sl ([.ref h0, .int 8]) ++ List.replicate (2 - (lg_sl ([.ref h0, .int 8])).length) Slot.unset).toArray = ls at hl ⊢
  have hl : lv_has ls 2 [(0, .ref h0), (1, .int 8)] := hl
  refine lv_aload_n hx hb dX4_add_0 rfl (lv_at hl 0 rfl) ?_
  refine va_get (D := (dC, dI)) (ci := 11) (v := .int 0) (C := RX4) (T := TX4) (N := 2) hx hb hta naX4 hown hK hP 0 rfl rfl 1 (by decide) (hta _ wm14) (fun _ h9 => h9) rfl dX4_add_1 ?_
  refine lv_if_lt (tgt := 39) hx hb dX4_add_4 (by decide) (fun c1 => absurd c1 (by decide)) (fun c1 => ?_)
  refine lv_aload_n hx hb dX4_add_7 rfl (lv_at hl 0 rfl) ?_
  refine va_get (D := (dC, dI)) (ci := 11) (v := .int 0) (C := RX4) (T := TX4) (N := 2) hx hb hta naX4 hown hK hP 0 rfl rfl 1 (by decide) (hta _ wm14) (fun _ h9 => h9) rfl dX4_add_8 ?_
  refine lv_aload_n hx hb dX4_add_11 rfl (lv_at hl 0 rfl) ?_
  refine va_get (D := (dC, dI)) (ci := 11) (v := .ref h1) (C := RX4) (T := TX4) (N := 2) hx hb hta naX4 hown hK hP 0 rfl rfl 0 (by decide) (hta _ wm16) (fun _ h9 => h9) rfl dX4_add_12 ?_
  refine va_alen (v := 4960) hx hb hK hP 1 0 rfl rfl (show Int32.ofNat 4960 = 4960 by decide) dX4_add_15 ?_
  refine lv_icmp_ge (tgt := 39) hx hb dX4_add_16 (by decide) (fun c2 => absurd c2 (by decide)) (fun c2 => ?_)
  refine lv_aload_n hx hb dX4_add_19 rfl (lv_at hl 0 rfl) ?_
  refine va_get (D := (dC, dI)) (ci := 11) (v := .ref h1) (C := RX4) (T := TX4) (N := 2) hx hb hta naX4 hown hK hP 0 rfl rfl 0 (by decide) (hta _ wm16) (fun _ h9 => h9) rfl dX4_add_20 ?_
  refine lv_aload_n hx hb dX4_add_23 rfl (lv_at hl 0 rfl) ?_
  refine va_get (D := (dC, dI)) (ci := 11) (v := .int 0) (C := RX4) (T := TX4) (N := 2) hx hb hta naX4 hown hK hP 0 rfl rfl 1 (by decide) (hta _ wm14) (fun _ h9 => h9) rfl dX4_add_24 ?_
  refine lv_iload_n hx hb dX4_add_27 rfl (lv_at hl 1 rfl) ?_
  refine va_iast hx hb hK hP hD hS 1 0 rfl rfl (vp_in_nI (n := 0) (by decide) (by decide)) dX4_add_28 (fun H locs hP hD hS => ?_)
  have hP : va_P (dC, dI) vwCl [(h0, .inr (11, [.ref h1, .int 0])), (h1, .inl (cc0, 4960, .inl (upd (f0) 0 8)))] H := hP
  have hD : va_D A [(h0, .inr (11, [.ref h1, .int 0])), (h1, .inl (cc0, 4960, .inl (upd (f0) 0 8)))] := hD
  refine lv_aload_n hx hb dX4_add_29 rfl (lv_at hl 0 rfl) ?_
  refine lv_dup hx hb dX4_add_30 rfl ?_
  refine va_get (D := (dC, dI)) (ci := 11) (v := .int 0) (C := RX4) (T := TX4) (N := 2) hx hb hta naX4 hown hK hP 0 rfl rfl 1 (by decide) (hta _ wm14) (fun _ h9 => h9) rfl dX4_add_31 ?_
  refine lv_iconst (v := 1) hx hb dX4_add_34 (by decide) ?_
  refine lv_iadd hx hb dX4_add_35 ?_
  refine lv_topi (fun y3 ey3 => ?_)
  obtain rfl : y3 = 1 := ey3.trans (by decide)
  refine va_put (D := (dC, dI)) (ci := 11) (v := .int 1) (ty := .int) (C := RX4) (T := TX4) (N := 2) hx hb hta naX4 tyX4 tyX4_ok nmX4 hown hK hP hD hS 0 rfl rfl 1 (by decide) (hta _ wm14) (fun _ h9 => h9) rfl (by decide +kernel) rfl rfl (Nat.le_of_ble_eq_true rfl) dX4_add_36 (fun H locs hP hD hS => ?_)
  have hP : va_P (dC, dI) vwCl [(h0, .inr (11, [.ref h1, .int 1])), (h1, .inl (cc0, 4960, .inl (upd (f0) 0 8)))] H := hP
  have hD : va_D A [(h0, .inr (11, [.ref h1, .int 1])), (h1, .inl (cc0, 4960, .inl (upd (f0) 0 8)))] := hD
  have hP9 := hP.sub (ws' := [(h0, .inr (11, [.ref h1, .int 1])), (h1, .inl (cc0, 4960, .inl (upd (f0) 0 8)))]) [0, 1] rfl
  have hD9 := hD.sub (ws' := [(h0, .inr (11, [.ref h1, .int 1])), (h1, .inl (cc0, 4960, .inl (upd (f0) 0 8)))]) [0, 1] (by decide) rfl
  have hK9 := hK.sub (tys' := [(cc0, .int)]) [0] rfl
  refine W.widen (k := 0) (n := 0) (Nat.le_of_ble_eq_true rfl) (Nat.le_of_ble_eq_true rfl) ?_
  exact W.vret hx hb hr (fun t ht hW => ⟨⟨(), rfl, trivial, by rw [ht]; exact hP9, va_K.moved hW.alike hK9, hD9⟩, hS.F ht⟩) hS.2.2 dX4_add_39
set_option maxHeartbeats 4000000 in
set_option maxRecDepth 100000 in
theorem kX4_get_19 (l : Launch) (dC : Nat → ClassId) (dI : Nat → Nat → Nat) (g : Nat → Nat) (sz : Nat) (h0 : Nat) (h1 : Nat) (cc0 : ClassId) (x0 : Int32) (x1 : Int32) (x2 : Int32) (x3 : Int32) (x4 : Int32) (x5 : Int32) (ex0 : (-1 : Int) ≤ x0.toInt ∧ x0.toInt ≤ (21 : Int)) (ex1 : (-1 : Int) ≤ x1.toInt ∧ x1.toInt ≤ (21 : Int)) (ex2 : (-1 : Int) ≤ x2.toInt ∧ x2.toInt ≤ (21 : Int)) (ex3 : (-1 : Int) ≤ x3.toInt ∧ x3.toInt ≤ (21 : Int)) (ex4 : (-1 : Int) ≤ x4.toInt ∧ x4.toInt ≤ (21 : Int)) (ex5 : (-2147483648 : Int) ≤ x5.toInt ∧ x5.toInt ≤ (-2 : Int)) : Met l yX4_get wbX4_get ({ frames := 0, cells := 0, slots := 0, locals := 0 }) (va_Pc [.ref h0, .int 3] (fun U => U.heap.size = sz ∧ va_P (dC, dI) vwCl [(h0, .inr (11, [.ref h1, .int 6])), (h1, .inl (cc0, 6, .inl (upd (upd (upd (upd (upd (upd (fun _ => 0) 0 x0) 1 x1) 2 x2) 3 x3) 4 x4) 5 x5)))] U.heap ∧ va_K (dC, dI) vwCl [(cc0, .int)] U ∧ va_D (fun _ => True) [(h0, .inr (11, [.ref h1, .int 6])), (h1, .inl (cc0, 6, .inl (upd (upd (upd (upd (upd (upd (fun _ => 0) 0 x0) 1 x1) 2 x2) 3 x3) 4 x4) 5 x5)))] ∧ ns_F g (va_A [(h0, .inr (11, [.ref h1, .int 6])), (h1, .inl (cc0, 6, .inl (upd (upd (upd (upd (upd (upd (fun _ => 0) 0 x0) 1 x1) 2 x2) 3 x3) 4 x4) 5 x5)))] sz) U U.heap)) (va_Qi (fun (r : Int32) (_ : Unit) => r = x3) (fun _ t => va_P (dC, dI) vwCl [(h0, .inr (11, [.ref h1, .int 6])), (h1, .inl (cc0, 6, .inl (upd (upd (upd (upd (upd (upd (fun _ => 0) 0 x0) 1 x1) 2 x2) 3 x3) 4 x4) 5 x5)))] t.heap ∧ va_K (dC, dI) vwCl [(cc0, .int)] t ∧ va_D (va_A [(h0, .inr (11, [.ref h1, .int 6])), (h1, .inl (cc0, 6, .inl (upd (upd (upd (upd (upd (upd (fun _ => 0) 0 x0) 1 x1) 2 x2) 3 x3) 4 x4) 5 x5)))] sz) [(h0, .inr (11, [.ref h1, .int 6])), (h1, .inl (cc0, 6, .inl (upd (upd (upd (upd (upd (upd (fun _ => 0) 0 x0) 1 x1) 2 x2) 3 x3) 4 x4) 5 x5)))]) (va_A [(h0, .inr (11, [.ref h1, .int 6])), (h1, .inl (cc0, 6, .inl (upd (upd (upd (upd (upd (upd (fun _ => 0) 0 x0) 1 x1) 2 x2) 3 x3) 4 x4) 5 x5)))] sz)) 0 0 (va_A [(h0, .inr (11, [.ref h1, .int 6])), (h1, .inl (cc0, 6, .inl (upd (upd (upd (upd (upd (upd (fun _ => 0) 0 x0) 1 x1) 2 x2) 3 x3) 4 x4) 5 x5)))] sz) := by
  refine Met.ofW (cc := cX4_get) (maxL := 2) (ret := (some .int)) (by decide) rfl ?_
  intro p e s m args below meth c s₁ B hml hv
  obtain ⟨rfl, hsz, hP, hK, hD0, hF⟩ := hv
  have hx := B.exec
  have hb := B.bytes
  have hr := B.returns
  have hts := atoms_spec (ws := wbX4_get) B.pre
  have hta : ∀ w ∈ wsALL, w.before _ s = true := fun w h => hts w (List.mem_cons_of_mem _ h)
  have hown : s.vm.findClass RX4 = some m.cls := findClass_of_methodNamed B.named
  have hlocks := B.notSynchronized
  subst hsz
  have hD := hD0.self (sz := s.heap.size)
  generalize hAe : va_A [(h0, .inr (11, [.ref h1, .int 6])), (h1, .inl (cc0, 6, .inl (upd (upd (upd (upd (upd (upd (fun _ => 0) 0 x0) 1 x1) 2 x2) 3 x3) 4 x4) 5 x5)))] s.heap.size = A at hD hF ⊢
  have hA : ∀ q : Nat, s.heap.size ≤ q → A q := fun q h => by rw [← hAe]; exact Or.inr h
  have hS : va_S A s.heap s.heap [] := va_S.rf
  have hP : va_P (dC, dI) vwCl [(h0, .inr (11, [.ref h1, .int 6])), (h1, .inl (cc0, 6, .inl (upd (upd (upd (upd (upd (upd (fun _ => 0) 0 x0) 1 x1) 2 x2) 3 x3) 4 x4) 5 x5)))] s.heap := hP
  have hl := lv_entry ([.ref h0, .int 3]) (n := 2) (Nat.le_of_ble_eq_true rfl)
  rw [lg_entry_eq]
  generalize (lg_sl ([.ref h0, .int 3]) ++ List.replicate (2 - (lg_sl ([.ref h0, .int 3])).length) Slot.unset).toArray = ls at hl ⊢
  have hl : lv_has ls 2 [(0, .ref h0), (1, .int 3)] := hl
  refine lv_iload_n hx hb dX4_get_0 rfl (lv_at hl 1 rfl) ?_
  refine lv_if_lt (tgt := 30) hx hb dX4_get_1 (by decide) (fun c1 => absurd c1 (by decide)) (fun c1 => ?_)
  refine lv_iload_n hx hb dX4_get_4 rfl (lv_at hl 1 rfl) ?_
  refine lv_aload_n hx hb dX4_get_5 rfl (lv_at hl 0 rfl) ?_
  refine va_get (D := (dC, dI)) (ci := 11) (v := .int 6) (C := RX4) (T := TX4) (N := 2) hx hb hta naX4 hown hK hP 0 rfl rfl 1 (by decide) (hta _ wm14) (fun _ h9 => h9) rfl dX4_get_6 ?_
  refine lv_icmp_ge (tgt := 30) hx hb dX4_get_9 (by decide) (fun c2 => absurd c2 (by decide)) (fun c2 => ?_)
  refine lv_iload_n hx hb dX4_get_12 rfl (lv_at hl 1 rfl) ?_
  refine lv_aload_n hx hb dX4_get_13 rfl (lv_at hl 0 rfl) ?_
  refine va_get (D := (dC, dI)) (ci := 11) (v := .ref h1) (C := RX4) (T := TX4) (N := 2) hx hb hta naX4 hown hK hP 0 rfl rfl 0 (by decide) (hta _ wm16) (fun _ h9 => h9) rfl dX4_get_14 ?_
  refine va_alen (v := 6) hx hb hK hP 1 0 rfl rfl (show Int32.ofNat 6 = 6 by decide) dX4_get_17 ?_
  refine lv_icmp_ge (tgt := 30) hx hb dX4_get_18 (by decide) (fun c3 => absurd c3 (by decide)) (fun c3 => ?_)
  refine lv_aload_n hx hb dX4_get_21 rfl (lv_at hl 0 rfl) ?_
  refine va_get (D := (dC, dI)) (ci := 11) (v := .ref h1) (C := RX4) (T := TX4) (N := 2) hx hb hta naX4 hown hK hP 0 rfl rfl 0 (by decide) (hta _ wm16) (fun _ h9 => h9) rfl dX4_get_22 ?_
  refine lv_iload_n hx hb dX4_get_25 rfl (lv_at hl 1 rfl) ?_
  refine va_iald hx hb hK hP 1 0 rfl rfl (vp_in_nI (n := 3) (by decide) (by decide)) dX4_get_26 ?_
  refine lv_topi (fun y4 ey4 => ?_)
  obtain rfl : x3 = y4 := ey4.symm
  refine lv_goto (tgt := 31) hx hb dX4_get_27 (by decide) ?_
  have hP9 := hP.sub (ws' := [(h0, .inr (11, [.ref h1, .int 6])), (h1, .inl (cc0, 6, .inl (upd (upd (upd (upd (upd (upd (fun _ => 0) 0 x0) 1 x1) 2 x2) 3 x3) 4 x4) 5 x5)))]) [0, 1] rfl
  have hD9 := hD.sub (ws' := [(h0, .inr (11, [.ref h1, .int 6])), (h1, .inl (cc0, 6, .inl (upd (upd (upd (upd (upd (upd (fun _ => 0) 0 x0) 1 x1) 2 x2) 3 x3) 4 x4) 5 x5)))]) [0, 1] (by decide) rfl
  have hK9 := hK.sub (tys' := [(cc0, .int)]) [0] rfl
  refine W.widen (k := 0) (n := 0) (Nat.le_of_ble_eq_true rfl) (Nat.le_of_ble_eq_true rfl) ?_
  exact W.iret (v := x3) hx hb hr (fun t ht hW => ⟨⟨_, (), rfl, rfl, by rw [ht]; exact hP9, va_K.moved hW.alike hK9, hD9⟩, hS.F ht⟩) hS.2.2 dX4_get_31
set_option maxHeartbeats 4000000 in
set_option maxRecDepth 100000 in
theorem kX4_get_26 (l : Launch) (dC : Nat → ClassId) (dI : Nat → Nat → Nat) (g : Nat → Nat) (sz : Nat) (h0 : Nat) (h1 : Nat) (cc0 : ClassId) (x0 : Int32) (x1 : Int32) (x2 : Int32) (x3 : Int32) (x4 : Int32) (x5 : Int32) (ex0 : (-1 : Int) ≤ x0.toInt ∧ x0.toInt ≤ (21 : Int)) (ex1 : (-1 : Int) ≤ x1.toInt ∧ x1.toInt ≤ (21 : Int)) (ex2 : (-1 : Int) ≤ x2.toInt ∧ x2.toInt ≤ (21 : Int)) (ex3 : (-1 : Int) ≤ x3.toInt ∧ x3.toInt ≤ (21 : Int)) (ex4 : (-1 : Int) ≤ x4.toInt ∧ x4.toInt ≤ (21 : Int)) (ex5 : (-1 : Int) ≤ x5.toInt ∧ x5.toInt ≤ (21 : Int)) : Met l yX4_get wbX4_get ({ frames := 0, cells := 0, slots := 0, locals := 0 }) (va_Pc [.ref h0, .int 4] (fun U => U.heap.size = sz ∧ va_P (dC, dI) vwCl [(h0, .inr (11, [.ref h1, .int 6])), (h1, .inl (cc0, 6, .inl (upd (upd (upd (upd (upd (upd (fun _ => 0) 0 x0) 1 x1) 2 x2) 3 x3) 4 x4) 5 x5)))] U.heap ∧ va_K (dC, dI) vwCl [(cc0, .int)] U ∧ va_D (fun _ => True) [(h0, .inr (11, [.ref h1, .int 6])), (h1, .inl (cc0, 6, .inl (upd (upd (upd (upd (upd (upd (fun _ => 0) 0 x0) 1 x1) 2 x2) 3 x3) 4 x4) 5 x5)))] ∧ ns_F g (va_A [(h0, .inr (11, [.ref h1, .int 6])), (h1, .inl (cc0, 6, .inl (upd (upd (upd (upd (upd (upd (fun _ => 0) 0 x0) 1 x1) 2 x2) 3 x3) 4 x4) 5 x5)))] sz) U U.heap)) (va_Qi (fun (r : Int32) (_ : Unit) => r = x4) (fun _ t => va_P (dC, dI) vwCl [(h0, .inr (11, [.ref h1, .int 6])), (h1, .inl (cc0, 6, .inl (upd (upd (upd (upd (upd (upd (fun _ => 0) 0 x0) 1 x1) 2 x2) 3 x3) 4 x4) 5 x5)))] t.heap ∧ va_K (dC, dI) vwCl [(cc0, .int)] t ∧ va_D (va_A [(h0, .inr (11, [.ref h1, .int 6])), (h1, .inl (cc0, 6, .inl (upd (upd (upd (upd (upd (upd (fun _ => 0) 0 x0) 1 x1) 2 x2) 3 x3) 4 x4) 5 x5)))] sz) [(h0, .inr (11, [.ref h1, .int 6])), (h1, .inl (cc0, 6, .inl (upd (upd (upd (upd (upd (upd (fun _ => 0) 0 x0) 1 x1) 2 x2) 3 x3) 4 x4) 5 x5)))]) (va_A [(h0, .inr (11, [.ref h1, .int 6])), (h1, .inl (cc0, 6, .inl (upd (upd (upd (upd (upd (upd (fun _ => 0) 0 x0) 1 x1) 2 x2) 3 x3) 4 x4) 5 x5)))] sz)) 0 0 (va_A [(h0, .inr (11, [.ref h1, .int 6])), (h1, .inl (cc0, 6, .inl (upd (upd (upd (upd (upd (upd (fun _ => 0) 0 x0) 1 x1) 2 x2) 3 x3) 4 x4) 5 x5)))] sz) := by
  refine Met.ofW (cc := cX4_get) (maxL := 2) (ret := (some .int)) (by decide) rfl ?_
  intro p e s m args below meth c s₁ B hml hv
  obtain ⟨rfl, hsz, hP, hK, hD0, hF⟩ := hv
  have hx := B.exec
  have hb := B.bytes
  have hr := B.returns
  have hts := atoms_spec (ws := wbX4_get) B.pre
  have hta : ∀ w ∈ wsALL, w.before _ s = true := fun w h => hts w (List.mem_cons_of_mem _ h)
  have hown : s.vm.findClass RX4 = some m.cls := findClass_of_methodNamed B.named
  have hlocks := B.notSynchronized
  subst hsz
  have hD := hD0.self (sz := s.heap.size)
  generalize hAe : va_A [(h0, .inr (11, [.ref h1, .int 6])), (h1, .inl (cc0, 6, .inl (upd (upd (upd (upd (upd (upd (fun _ => 0) 0 x0) 1 x1) 2 x2) 3 x3) 4 x4) 5 x5)))] s.heap.size = A at hD hF ⊢
  have hA : ∀ q : Nat, s.heap.size ≤ q → A q := fun q h => by rw [← hAe]; exact Or.inr h
  have hS : va_S A s.heap s.heap [] := va_S.rf
  have hP : va_P (dC, dI) vwCl [(h0, .inr (11, [.ref h1, .int 6])), (h1, .inl (cc0, 6, .inl (upd (upd (upd (upd (upd (upd (fun _ => 0) 0 x0) 1 x1) 2 x2) 3 x3) 4 x4) 5 x5)))] s.heap := hP
  have hl := lv_entry ([.ref h0, .int 4]) (n := 2) (Nat.le_of_ble_eq_true rfl)
  rw [lg_entry_eq]
  generalize (lg_sl ([.ref h0, .int 4]) ++ List.replicate (2 - (lg_sl ([.ref h0, .int 4])).length) Slot.unset).toArray = ls at hl ⊢
  have hl : lv_has ls 2 [(0, .ref h0), (1, .int 4)] := hl
  refine lv_iload_n hx hb dX4_get_0 rfl (lv_at hl 1 rfl) ?_
  refine lv_if_lt (tgt := 30) hx hb dX4_get_1 (by decide) (fun c1 => absurd c1 (by decide)) (fun c1 => ?_)
  refine lv_iload_n hx hb dX4_get_4 rfl (lv_at hl 1 rfl) ?_
  refine lv_aload_n hx hb dX4_get_5 rfl (lv_at hl 0 rfl) ?_
  refine va_get (D := (dC, dI)) (ci := 11) (v := .int 6) (C := RX4) (T := TX4) (N := 2) hx hb hta naX4 hown hK hP 0 rfl rfl 1 (by decide) (hta _ wm14) (fun _ h9 => h9) rfl dX4_get_6 ?_
  refine lv_icmp_ge (tgt := 30) hx hb dX4_get_9 (by decide) (fun c2 => absurd c2 (by decide)) (fun c2 => ?_)
  refine lv_iload_n hx hb dX4_get_12 rfl (lv_at hl 1 rfl) ?_
  refine lv_aload_n hx hb dX4_get_13 rfl (lv_at hl 0 rfl) ?_
  refine va_get (D := (dC, dI)) (ci := 11) (v := .ref h1) (C := RX4) (T := TX4) (N := 2) hx hb hta naX4 hown hK hP 0 rfl rfl 0 (by decide) (hta _ wm16) (fun _ h9 => h9) rfl dX4_get_14 ?_
  refine va_alen (v := 6) hx hb hK hP 1 0 rfl rfl (show Int32.ofNat 6 = 6 by decide) dX4_get_17 ?_
  refine lv_icmp_ge (tgt := 30) hx hb dX4_get_18 (by decide) (fun c3 => absurd c3 (by decide)) (fun c3 => ?_)
  refine lv_aload_n hx hb dX4_get_21 rfl (lv_at hl 0 rfl) ?_
  refine va_get (D := (dC, dI)) (ci := 11) (v := .ref h1) (C := RX4) (T := TX4) (N := 2) hx hb hta naX4 hown hK hP 0 rfl rfl 0 (by decide) (hta _ wm16) (fun _ h9 => h9) rfl dX4_get_22 ?_
  refine lv_iload_n hx hb dX4_get_25 rfl (lv_at hl 1 rfl) ?_
  refine va_iald hx hb hK hP 1 0 rfl rfl (vp_in_nI (n := 4) (by decide) (by decide)) dX4_get_26 ?_
  refine lv_topi (fun y4 ey4 => ?_)
  obtain rfl : x4 = y4 := ey4.symm
  refine lv_goto (tgt := 31) hx hb dX4_get_27 (by decide) ?_
  have hP9 := hP.sub (ws' := [(h0, .inr (11, [.ref h1, .int 6])), (h1, .inl (cc0, 6, .inl (upd (upd (upd (upd (upd (upd (fun _ => 0) 0 x0) 1 x1) 2 x2) 3 x3) 4 x4) 5 x5)))]) [0, 1] rfl
  have hD9 := hD.sub (ws' := [(h0, .inr (11, [.ref h1, .int 6])), (h1, .inl (cc0, 6, .inl (upd (upd (upd (upd (upd (upd (fun _ => 0) 0 x0) 1 x1) 2 x2) 3 x3) 4 x4) 5 x5)))]) [0, 1] (by decide) rfl
  have hK9 := hK.sub (tys' := [(cc0, .int)]) [0] rfl
  refine W.widen (k := 0) (n := 0) (Nat.le_of_ble_eq_true rfl) (Nat.le_of_ble_eq_true rfl) ?_
  exact W.iret (v := x4) hx hb hr (fun t ht hW => ⟨⟨_, (), rfl, rfl, by rw [ht]; exact hP9, va_K.moved hW.alike hK9, hD9⟩, hS.F ht⟩) hS.2.2 dX4_get_31
set_option maxHeartbeats 4000000 in
set_option maxRecDepth 100000 in
theorem kX4_get_9 (l : Launch) (dC : Nat → ClassId) (dI : Nat → Nat → Nat) (g : Nat → Nat) (sz : Nat) (h0 : Nat) (h1 : Nat) (cc0 : ClassId) (x0 : Int32) (x1 : Int32) (x2 : Int32) (x3 : Int32) (x4 : Int32) (x5 : Int32) (ex0 : (-1 : Int) ≤ x0.toInt ∧ x0.toInt ≤ (21 : Int)) (ex1 : (-1 : Int) ≤ x1.toInt ∧ x1.toInt ≤ (21 : Int)) (ex2 : (-1 : Int) ≤ x2.toInt ∧ x2.toInt ≤ (21 : Int)) (ex3 : (-2147483648 : Int) ≤ x3.toInt ∧ x3.toInt ≤ (-2 : Int)) : Met l yX4_get wbX4_get ({ frames := 0, cells := 0, slots := 0, locals := 0 }) (va_Pc [.ref h0, .int 2] (fun U => U.heap.size = sz ∧ va_P (dC, dI) vwCl [(h0, .inr (11, [.ref h1, .int 6])), (h1, .inl (cc0, 6, .inl (upd (upd (upd (upd (upd (upd (fun _ => 0) 0 x0) 1 x1) 2 x2) 3 x3) 4 x4) 5 x5)))] U.heap ∧ va_K (dC, dI) vwCl [(cc0, .int)] U ∧ va_D (fun _ => True) [(h0, .inr (11, [.ref h1, .int 6])), (h1, .inl (cc0, 6, .inl (upd (upd (upd (upd (upd (upd (fun _ => 0) 0 x0) 1 x1) 2 x2) 3 x3) 4 x4) 5 x5)))] ∧ ns_F g (va_A [(h0, .inr (11, [.ref h1, .int 6])), (h1, .inl (cc0, 6, .inl (upd (upd (upd (upd (upd (upd (fun _ => 0) 0 x0) 1 x1) 2 x2) 3 x3) 4 x4) 5 x5)))] sz) U U.heap)) (va_Qi (fun (r : Int32) (_ : Unit) => r = x2) (fun _ t => va_P (dC, dI) vwCl [(h0, .inr (11, [.ref h1, .int 6])), (h1, .inl (cc0, 6, .inl (upd (upd (upd (upd (upd (upd (fun _ => 0) 0 x0) 1 x1) 2 x2) 3 x3) 4 x4) 5 x5)))] t.heap ∧ va_K (dC, dI) vwCl [(cc0, .int)] t ∧ va_D (va_A [(h0, .inr (11, [.ref h1, .int 6])), (h1, .inl (cc0, 6, .inl (upd (upd (upd (upd (upd (upd (fun _ => 0) 0 x0) 1 x1) 2 x2) 3 x3) 4 x4) 5 x5)))] sz) [(h0, .inr (11, [.ref h1, .int 6])), (h1, .inl (cc0, 6, .inl (upd (upd (upd (upd (upd (upd (fun _ => 0) 0 x0) 1 x1) 2 x2) 3 x3) 4 x4) 5 x5)))]) (va_A [(h0, .inr (11, [.ref h1, .int 6])), (h1, .inl (cc0, 6, .inl (upd (upd (upd (upd (upd (upd (fun _ => 0) 0 x0) 1 x1) 2 x2) 3 x3) 4 x4) 5 x5)))] sz)) 0 0 (va_A [(h0, .inr (11, [.ref h1, .int 6])), (h1, .inl (cc0, 6, .inl (upd (upd (upd (upd (upd (upd (fun _ => 0) 0 x0) 1 x1) 2 x2) 3 x3) 4 x4) 5 x5)))] sz) := by
  refine Met.ofW (cc := cX4_get) (maxL := 2) (ret := (some .int)) (by decide) rfl ?_
  intro p e s m args below meth c s₁ B hml hv
  obtain ⟨rfl, hsz, hP, hK, hD0, hF⟩ := hv
  have hx := B.exec
  have hb := B.bytes
  have hr := B.returns
  have hts := atoms_spec (ws := wbX4_get) B.pre
  have hta : ∀ w ∈ wsALL, w.before _ s = true := fun w h => hts w (List.mem_cons_of_mem _ h)
  have hown : s.vm.findClass RX4 = some m.cls := findClass_of_methodNamed B.named
  have hlocks := B.notSynchronized
  subst hsz
  have hD := hD0.self (sz := s.heap.size)
  generalize hAe : va_A [(h0, .inr (11, [.ref h1, .int 6])), (h1, .inl (cc0, 6, .inl (upd (upd (upd (upd (upd (upd (fun _ => 0) 0 x0) 1 x1) 2 x2) 3 x3) 4 x4) 5 x5)))] s.heap.size = A at hD hF ⊢
  have hA : ∀ q : Nat, s.heap.size ≤ q → A q := fun q h => by rw [← hAe]; exact Or.inr h
  have hS : va_S A s.heap s.heap [] := va_S.rf
  have hP : va_P (dC, dI) vwCl [(h0, .inr (11, [.ref h1, .int 6])), (h1, .inl (cc0, 6, .inl (upd (upd (upd (upd (upd (upd (fun _ => 0) 0 x0) 1 x1) 2 x2) 3 x3) 4 x4) 5 x5)))] s.heap := hP
  have hl := lv_entry ([.ref h0, .int 2]) (n := 2) (Nat.le_of_ble_eq_true rfl)
  rw [lg_entry_eq]
  generalize (lg_sl ([.ref h0, .int 2]) ++ List.replicate (2 - (lg_sl ([.ref h0, .int 2])).length) Slot.unset).toArray = ls at hl ⊢
  have hl : lv_has ls 2 [(0, .ref h0), (1, .int 2)] := hl
  refine lv_iload_n hx hb dX4_get_0 rfl (lv_at hl 1 rfl) ?_
  refine lv_if_lt (tgt := 30) hx hb dX4_get_1 (by decide) (fun c1 => absurd c1 (by decide)) (fun c1 => ?_)
  refine lv_iload_n hx hb dX4_get_4 rfl (lv_at hl 1 rfl) ?_
  refine lv_aload_n hx hb dX4_get_5 rfl (lv_at hl 0 rfl) ?_
  refine va_get (D := (dC, dI)) (ci := 11) (v := .int 6) (C := RX4) (T := TX4) (N := 2) hx hb hta naX4 hown hK hP 0 rfl rfl 1 (by decide) (hta _ wm14) (fun _ h9 => h9) rfl dX4_get_6 ?_
  refine lv_icmp_ge (tgt := 30) hx hb dX4_get_9 (by decide) (fun c2 => absurd c2 (by decide)) (fun c2 => ?_)
  refine lv_iload_n hx hb dX4_get_12 rfl (lv_at hl 1 rfl) ?_
  refine lv_aload_n hx hb dX4_get_13 rfl (lv_at hl 0 rfl) ?_
  refine va_get (D := (dC, dI)) (ci := 11) (v := .ref h1) (C := RX4) (T := TX4) (N := 2) hx hb hta naX4 hown hK hP 0 rfl rfl 0 (by decide) (hta _ wm16) (fun _ h9 => h9) rfl dX4_get_14 ?_
  refine va_alen (v := 6) hx hb hK hP 1 0 rfl rfl (show Int32.ofNat 6 = 6 by decide) dX4_get_17 ?_
  refine lv_icmp_ge (tgt := 30) hx hb dX4_get_18 (by decide) (fun c3 => absurd c3 (by decide)) (fun c3 => ?_)
  refine lv_aload_n hx hb dX4_get_21 rfl (lv_at hl 0 rfl) ?_
  refine va_get (D := (dC, dI)) (ci := 11) (v := .ref h1) (C := RX4) (T := TX4) (N := 2) hx hb hta naX4 hown hK hP 0 rfl rfl 0 (by decide) (hta _ wm16) (fun _ h9 => h9) rfl dX4_get_22 ?_
  refine lv_iload_n hx hb dX4_get_25 rfl (lv_at hl 1 rfl) ?_
  refine va_iald hx hb hK hP 1 0 rfl rfl (vp_in_nI (n := 2) (by decide) (by decide)) dX4_get_26 ?_
  refine lv_topi (fun y4 ey4 => ?_)
  obtain rfl : x2 = y4 := ey4.symm
  refine lv_goto (tgt := 31) hx hb dX4_get_27 (by decide) ?_
  have hP9 := hP.sub (ws' := [(h0, .inr (11, [.ref h1, .int 6])), (h1, .inl (cc0, 6, .inl (upd (upd (upd (upd (upd (upd (fun _ => 0) 0 x0) 1 x1) 2 x2) 3 x3) 4 x4) 5 x5)))]) [0, 1] rfl
  have hD9 := hD.sub (ws' := [(h0, .inr (11, [.ref h1, .int 6])), (h1, .inl (cc0, 6, .inl (upd (upd (upd (upd (upd (upd (fun _ => 0) 0 x0) 1 x1) 2 x2) 3 x3) 4 x4) 5 x5)))]) [0, 1] (by decide) rfl
  have hK9 := hK.sub (tys' := [(cc0, .int)]) [0] rfl
  refine W.widen (k := 0) (n := 0) (Nat.le_of_ble_eq_true rfl) (Nat.le_of_ble_eq_true rfl) ?_
  exact W.iret (v := x2) hx hb hr (fun t ht hW => ⟨⟨_, (), rfl, rfl, by rw [ht]; exact hP9, va_K.moved hW.alike hK9, hD9⟩, hS.F ht⟩) hS.2.2 dX4_get_31
set_option maxHeartbeats 4000000 in
set_option maxRecDepth 100000 in
theorem kX4_get_3 (l : Launch) (dC : Nat → ClassId) (dI : Nat → Nat → Nat) (g : Nat → Nat) (sz : Nat) (h0 : Nat) (h1 : Nat) (cc0 : ClassId) (x0 : Int32) (x1 : Int32) (x2 : Int32) (x3 : Int32) (x4 : Int32) (x5 : Int32) (ex0 : (-1 : Int) ≤ x0.toInt ∧ x0.toInt ≤ (21 : Int)) (ex1 : (-2147483648 : Int) ≤ x1.toInt ∧ x1.toInt ≤ (-2 : Int)) : Met l yX4_get wbX4_get ({ frames := 0, cells := 0, slots := 0, locals := 0 }) (va_Pc [.ref h0, .int 1] (fun U => U.heap.size = sz ∧ va_P (dC, dI) vwCl [(h0, .inr (11, [.ref h1, .int 6])), (h1, .inl (cc0, 6, .inl (upd (upd (upd (upd (upd (upd (fun _ => 0) 0 x0) 1 x1) 2 x2) 3 x3) 4 x4) 5 x5)))] U.heap ∧ va_K (dC, dI) vwCl [(cc0, .int)] U ∧ va_D (fun _ => True) [(h0, .inr (11, [.ref h1, .int 6])), (h1, .inl (cc0, 6, .inl (upd (upd (upd (upd (upd (upd (fun _ => 0) 0 x0) 1 x1) 2 x2) 3 x3) 4 x4) 5 x5)))] ∧ ns_F g (va_A [(h0, .inr (11, [.ref h1, .int 6])), (h1, .inl (cc0, 6, .inl (upd (upd (upd (upd (upd (upd (fun _ => 0) 0 x0) 1 x1) 2 x2) 3 x3) 4 x4) 5 x5)))] sz) U U.heap)) (va_Qi (fun (r : Int32) (_ : Unit) => r = x1) (fun _ t => va_P (dC, dI) vwCl [(h0, .inr (11, [.ref h1, .int 6])), (h1, .inl (cc0, 6, .inl (upd (upd (upd (upd (upd (upd (fun _ => 0) 0 x0) 1 x1) 2 x2) 3 x3) 4 x4) 5 x5)))] t.heap ∧ va_K (dC, dI) vwCl [(cc0, .int)] t ∧ va_D (va_A [(h0, .inr (11, [.ref h1, .int 6])), (h1, .inl (cc0, 6, .inl (upd (upd (upd (upd (upd (upd (fun _ => 0) 0 x0) 1 x1) 2 x2) 3 x3) 4 x4) 5 x5)))] sz) [(h0, .inr (11, [.ref h1, .int 6])), (h1, .inl (cc0, 6, .inl (upd (upd (upd (upd (upd (upd (fun _ => 0) 0 x0) 1 x1) 2 x2) 3 x3) 4 x4) 5 x5)))]) (va_A [(h0, .inr (11, [.ref h1, .int 6])), (h1, .inl (cc0, 6, .inl (upd (upd (upd (upd (upd (upd (fun _ => 0) 0 x0) 1 x1) 2 x2) 3 x3) 4 x4) 5 x5)))] sz)) 0 0 (va_A [(h0, .inr (11, [.ref h1, .int 6])), (h1, .inl (cc0, 6, .inl (upd (upd (upd (upd (upd (upd (fun _ => 0) 0 x0) 1 x1) 2 x2) 3 x3) 4 x4) 5 x5)))] sz) := by
  refine Met.ofW (cc := cX4_get) (maxL := 2) (ret := (some .int)) (by decide) rfl ?_
  intro p e s m args below meth c s₁ B hml hv
  obtain ⟨rfl, hsz, hP, hK, hD0, hF⟩ := hv
  have hx := B.exec
  have hb := B.bytes
  have hr := B.returns
  have hts := atoms_spec (ws := wbX4_get) B.pre
  have hta : ∀ w ∈ wsALL, w.before _ s = true := fun w h => hts w (List.mem_cons_of_mem _ h)
  have hown : s.vm.findClass RX4 = some m.cls := findClass_of_methodNamed B.named
  have hlocks := B.notSynchronized
  subst hsz
  have hD := hD0.self (sz := s.heap.size)
  generalize hAe : va_A [(h0, .inr (11, [.ref h1, .int 6])), (h1, .inl (cc0, 6, .inl (upd (upd (upd (upd (upd (upd (fun _ => 0) 0 x0) 1 x1) 2 x2) 3 x3) 4 x4) 5 x5)))] s.heap.size = A at hD hF ⊢
  have hA : ∀ q : Nat, s.heap.size ≤ q → A q := fun q h => by rw [← hAe]; exact Or.inr h
  have hS : va_S A s.heap s.heap [] := va_S.rf
  have hP : va_P (dC, dI) vwCl [(h0, .inr (11, [.ref h1, .int 6])), (h1, .inl (cc0, 6, .inl (upd (upd (upd (upd (upd (upd (fun _ => 0) 0 x0) 1 x1) 2 x2) 3 x3) 4 x4) 5 x5)))] s.heap := hP
  have hl := lv_entry ([.ref h0, .int 1]) (n := 2) (Nat.le_of_ble_eq_true rfl)
  rw [lg_entry_eq]
  generalize (lg_sl ([.ref h0, .int 1]) ++ List.replicate (2 - (lg_sl ([.ref h0, .int 1])).length) Slot.unset).toArray = ls at hl ⊢
  have hl : lv_has ls 2 [(0, .ref h0), (1, .int 1)] := hl
  refine lv_iload_n hx hb dX4_get_0 rfl (lv_at hl 1 rfl) ?_
  refine lv_if_lt (tgt := 30) hx hb dX4_get_1 (by decide) (fun c1 => absurd c1 (by decide)) (fun c1 => ?_)
  refine lv_iload_n hx hb dX4_get_4 rfl (lv_at hl 1 rfl) ?_
  refine lv_aload_n hx hb dX4_get_5 rfl (lv_at hl 0 rfl) ?_
  refine va_get (D := (dC, dI)) (ci := 11) (v := .int 6) (C := RX4) (T := TX4) (N := 2) hx hb hta naX4 hown hK hP 0 rfl rfl 1 (by decide) (hta _ wm14) (fun _ h9 => h9) rfl dX4_get_6 ?_
  refine lv_icmp_ge (tgt := 30) hx hb dX4_get_9 (by decide) (fun c2 => absurd c2 (by decide)) (fun c2 => ?_)
  refine lv_iload_n hx hb dX4_get_12 rfl (lv_at hl 1 rfl) ?_
  refine lv_aload_n hx hb dX4_get_13 rfl (lv_at hl 0 rfl) ?_
  refine va_get (D := (dC, dI)) (ci := 11) (v := .ref h1) (C := RX4) (T := TX4) (N := 2) hx hb hta naX4 hown hK hP 0 rfl rfl 0 (by decide) (hta _ wm16) (fun _ h9 => h9) rfl dX4_get_14 ?_
  refine va_alen (v := 6) hx hb hK hP 1 0 rfl rfl (show Int32.ofNat 6 = 6 by decide) dX4_get_17 ?_
  refine lv_icmp_ge (tgt := 30) hx hb dX4_get_18 (by decide) (fun c3 => absurd c3 (by decide)) (fun c3 => ?_)
  refine lv_aload_n hx hb dX4_get_21 rfl (lv_at hl 0 rfl) ?_
  refine va_get (D := (dC, dI)) (ci := 11) (v := .ref h1) (C := RX4) (T := TX4) (N := 2) hx hb hta naX4 hown hK hP 0 rfl rfl 0 (by decide) (hta _ wm16) (fun _ h9 => h9) rfl dX4_get_22 ?_
  refine lv_iload_n hx hb dX4_get_25 rfl (lv_at hl 1 rfl) ?_
  refine va_iald hx hb hK hP 1 0 rfl rfl (vp_in_nI (n := 1) (by decide) (by decide)) dX4_get_26 ?_
  refine lv_topi (fun y4 ey4 => ?_)
  obtain rfl : x1 = y4 := ey4.symm
  refine lv_goto (tgt := 31) hx hb dX4_get_27 (by decide) ?_
  have hP9 := hP.sub (ws' := [(h0, .inr (11, [.ref h1, .int 6])), (h1, .inl (cc0, 6, .inl (upd (upd (upd (upd (upd (upd (fun _ => 0) 0 x0) 1 x1) 2 x2) 3 x3) 4 x4) 5 x5)))]) [0, 1] rfl
  have hD9 := hD.sub (ws' := [(h0, .inr (11, [.ref h1, .int 6])), (h1, .inl (cc0, 6, .inl (upd (upd (upd (upd (upd (upd (fun _ => 0) 0 x0) 1 x1) 2 x2) 3 x3) 4 x4) 5 x5)))]) [0, 1] (by decide) rfl
  have hK9 := hK.sub (tys' := [(cc0, .int)]) [0] rfl
  refine W.widen (k := 0) (n := 0) (Nat.le_of_ble_eq_true rfl) (Nat.le_of_ble_eq_true rfl) ?_
  exact W.iret (v := x1) hx hb hr (fun t ht hW => ⟨⟨_, (), rfl, rfl, by rw [ht]; exact hP9, va_K.moved hW.alike hK9, hD9⟩, hS.F ht⟩) hS.2.2 dX4_get_31
set_option maxHeartbeats 4000000 in
set_option maxRecDepth 100000 in
theorem kX4_init_2 (l : Launch) (dC : Nat → ClassId) (dI : Nat → Nat → Nat) (g : Nat → Nat) (sz : Nat) (h0 : Nat) (v0 : Value) (v1 : Value) : Met l yX4_init wbX4_init ({ frames := 1, cells := 1, slots := 4960, locals := 12 }) (va_Pc [.ref h0, .int 4960] (fun U => U.heap.size = sz ∧ va_P (dC, dI) vwCl [(h0, .inr (11, [v0, v1]))] U.heap ∧ va_K (dC, dI) vwCl [] U ∧ va_D (fun _ => True) [(h0, .inr (11, [v0, v1]))] ∧ ns_F g (va_A [(h0, .inr (11, [v0, v1]))] sz) U U.heap)) (va_Qv (fun _ : Unit => True) (fun _ t => ∃ k0 : Nat, ∃ kc1 : ClassId, va_P (dC, dI) vwCl [(h0, .inr (11, [.ref k0, .int 0])), (k0, .inl (kc1, 4960, .inl (fun _ => 0)))] t.heap ∧ va_K (dC, dI) vwCl [(kc1, .int)] t ∧ va_D (va_A [(h0, .inr (11, [v0, v1]))] sz) [(h0, .inr (11, [.ref k0, .int 0])), (k0, .inl (kc1, 4960, .inl (fun _ => 0)))]) (va_A [(h0, .inr (11, [v0, v1]))] sz)) 1 4960 (va_A [(h0, .inr (11, [v0, v1]))] sz) := by
  refine Met.ofW (cc := cX4_init) (maxL := 2) (ret := none) (by decide) rfl ?_
  intro p e s m args below meth c s₁ B hml hv
  obtain ⟨rfl, hsz, hP, hK, hD0, hF⟩ := hv
  have hx := B.exec
  have hb := B.bytes
  have hr := B.returns
  have hts := atoms_spec (ws := wbX4_init) B.pre
  have hta : ∀ w ∈ wsALL, w.before _ s = true := fun w h => hts w (List.mem_cons_of_mem _ h)
  have hown : s.vm.findClass RX4 = some m.cls := findClass_of_methodNamed B.named
  have hlocks := B.notSynchronized
  have hin : meth.name = "<init>" := (name_of_methodNamed B.named B.method).1
  subst hsz
  have hD := hD0.self (sz := s.heap.size)
  generalize hAe : va_A [(h0, .inr (11, [v0, v1]))] s.heap.size = A at hD hF ⊢
  have hA : ∀ q : Nat, s.heap.size ≤ q → A q := fun q h => by rw [← hAe]; exact Or.inr h
  have hS : va_S A s.heap s.heap [] := va_S.rf
  have hP : va_P (dC, dI) vwCl [(h0, .inr (11, [v0, v1]))] s.heap := hP
  have hl := lv_entry ([.ref h0, .int 4960]) (n := 2) (Nat.le_of_ble_eq_true rfl)
  rw [lg_entry_eq]
  generalize (lg_sl ([.ref h0, .int 4960]) ++ List.replicate (2 - (lg_sl ([.ref h0, .int 4960])).length) Slot.unset).toArray = ls at hl ⊢
  have hl : lv_has ls 2 [(0, .ref h0), (1, .int 4960)] := hl
  refine lv_aload_n hx hb dX4_init_0 rfl (lv_at hl 0 rfl) ?_
  refine W.objInit hx hb hown (hta _ wm13) (hta _ wm4) (hta _ wm5) rfl (by rw [hml]; exact hl.1) rfl dX4_init_1 (Nat.le_of_ble_eq_true rfl) (Nat.le_of_ble_eq_true rfl) ?_
  refine W.eq (g2 := F0 m 4 ls []) rfl ?_
  refine lv_aload_n hx hb dX4_init_4 rfl (lv_at hl 0 rfl) ?_
  refine lv_iconst (v := 0) hx hb dX4_init_5 (by decide) ?_
  refine va_put (D := (dC, dI)) (ci := 11) (v := .int 0) (ty := .int) (C := RX4) (T := TX4) (N := 2) hx hb hta naX4 tyX4 tyX4_ok nmX4 hown hK hP hD hS 0 rfl rfl 1 (by decide) (hta _ wm14) (fun _ h9 => h9) rfl (by decide +kernel) rfl rfl (Nat.le_of_ble_eq_true rfl) dX4_init_6 (fun H locs hP hD hS => ?_)
  have hP : va_P (dC, dI) vwCl [(h0, .inr (11, [v0, .int 0]))] H := hP
  have hD : va_D A [(h0, .inr (11, [v0, .int 0]))] := hD
  refine lv_aload_n hx hb dX4_init_9 rfl (lv_at hl 0 rfl) ?_
  refine lv_iload_n hx hb dX4_init_10 rfl (lv_at hl 1 rfl) ?_
  refine lv_if_le (tgt := 18) hx hb dX4_init_11 (by decide) (fun c1 => absurd c1 (by decide)) (fun c1 => ?_)
  refine lv_iload_n hx hb dX4_init_14 rfl (lv_at hl 1 rfl) ?_
  refine lv_goto (tgt := 19) hx hb dX4_init_15 (by decide) ?_
  refine va_newa (atype := .int) hx hb (hta _ wm15) rfl hK hP hD hS hA (N' := 4960) (a0 := (4960, .inl (fun _ => 0))) (fun _ => rfl) (by decide) (by decide) (Nat.le_of_ble_eq_true rfl) (Nat.le_of_ble_eq_true rfl) (Nat.le_of_ble_eq_true rfl) dX4_init_19 (fun q2 cyq2 H hK hP hD hS => ?_)
  have hP : va_P (dC, dI) vwCl [(h0, .inr (11, [v0, .int 0])), (q2, .inl (cyq2, 4960, .inl (fun _ => 0)))] H := hP
  have hD : va_D A [(h0, .inr (11, [v0, .int 0])), (q2, .inl (cyq2, 4960, .inl (fun _ => 0)))] := hD
  have hK : va_K (dC, dI) vwCl [(cyq2, .int)] s := hK
  refine W.widen (k := 1) (n := 4960) (Nat.le_of_ble_eq_true rfl) (Nat.le_of_ble_eq_true rfl) ?_
  refine va_putF (D := (dC, dI)) (ci := 11) (v := .ref q2) (ty := .array (.int)) (C := RX4) (T := TX4) (N := 2) hx hb hta naX4 tyX4 tyX4_ok nmX4 hown hK hP hD hS 0 rfl rfl 0 (by decide) (hta _ wm16) (fun _ h9 => h9) rfl hin rfl (by decide +kernel) rfl rfl (Nat.le_of_ble_eq_true rfl) dX4_init_21 (fun H locs hP hD hS => ?_)
  have hP : va_P (dC, dI) vwCl [(h0, .inr (11, [.ref q2, .int 0])), (q2, .inl (cyq2, 4960, .inl (fun _ => 0)))] H := hP
  have hD : va_D A [(h0, .inr (11, [.ref q2, .int 0])), (q2, .inl (cyq2, 4960, .inl (fun _ => 0)))] := hD
  have hP9 := hP.sub (ws' := [(h0, .inr (11, [.ref q2, .int 0])), (q2, .inl (cyq2, 4960, .inl (fun _ => 0)))]) [0, 1] rfl
  have hD9 := hD.sub (ws' := [(h0, .inr (11, [.ref q2, .int 0])), (q2, .inl (cyq2, 4960, .inl (fun _ => 0)))]) [0, 1] (by decide) rfl
  have hK9 := hK.sub (tys' := [(cyq2, .int)]) [0] rfl
  refine W.widen (k := 1) (n := 4960) (Nat.le_of_ble_eq_true rfl) (Nat.le_of_ble_eq_true rfl) ?_
  exact W.vret hx hb hr (fun t ht hW => ⟨⟨(), rfl, trivial, q2, cyq2, by rw [ht]; exact hP9, va_K.moved hW.alike hK9, hD9⟩, hS.F ht⟩) hS.2.2 dX4_init_24
set_option maxHeartbeats 4000000 in
set_option maxRecDepth 100000 in
theorem kX4_cut_9 (l : Launch) (dC : Nat → ClassId) (dI : Nat → Nat → Nat) (g : Nat → Nat) (sz : Nat) (h0 : Nat) (x0 : Int32) (v0 : Value) (x1 : Int32) (ex0 : (0 : Int) ≤ x0.toInt ∧ x0.toInt ≤ (5 : Int)) (ex1 : (0 : Int) ≤ x1.toInt ∧ x1.toInt ≤ (4 : Int)) : Met l yX4_cut wbX4_cut ({ frames := 0, cells := 0, slots := 0, locals := 0 }) (va_Pc [.ref h0, .int x0] (fun U => U.heap.size = sz ∧ va_P (dC, dI) vwCl [(h0, .inr (11, [v0, .int x1]))] U.heap ∧ va_K (dC, dI) vwCl [] U ∧ va_D (fun _ => True) [(h0, .inr (11, [v0, .int x1]))] ∧ ns_F g (va_A [(h0, .inr (11, [v0, .int x1]))] sz) U U.heap)) (va_Qv (fun _ : Unit => True) (fun _ t => va_P (dC, dI) vwCl [(h0, .inr (11, [v0, .int (ns_cut x1 x0)]))] t.heap ∧ va_K (dC, dI) vwCl [] t ∧ va_D (va_A [(h0, .inr (11, [v0, .int x1]))] sz) [(h0, .inr (11, [v0, .int (ns_cut x1 x0)]))]) (va_A [(h0, .inr (11, [v0, .int x1]))] sz)) 0 0 (va_A [(h0, .inr (11, [v0, .int x1]))] sz) := by
  refine Met.ofW (cc := cX4_cut) (maxL := 2) (ret := none) (by decide) rfl ?_
  intro p e s m args below meth c s₁ B hml hv
  obtain ⟨rfl, hsz, hP, hK, hD0, hF⟩ := hv
  have hx := B.exec
  have hb := B.bytes
  have hr := B.returns
  have hts := atoms_spec (ws := wbX4_cut) B.pre
  have hta : ∀ w ∈ wsALL, w.before _ s = true := fun w h => hts w (List.mem_cons_of_mem _ h)
  have hown : s.vm.findClass RX4 = some m.cls := findClass_of_methodNamed B.named
  have hlocks := B.notSynchronized
  subst hsz
  have hD := hD0.self (sz := s.heap.size)
  generalize hAe : va_A [(h0, .inr (11, [v0, .int x1]))] s.heap.size = A at hD hF ⊢
  have hA : ∀ q : Nat, s.heap.size ≤ q → A q := fun q h => by rw [← hAe]; exact Or.inr h
  have hS : va_S A s.heap s.heap [] := va_S.rf
  have hP : va_P (dC, dI) vwCl [(h0, .inr (11, [v0, .int x1]))] s.heap := hP
  have hl := lv_entry ([.ref h0, .int x0]) (n := 2) (Nat.le_of_ble_eq_true rfl)
  rw [lg_entry_eq]
  generalize (lg_sl ([.ref h0, .int x0]) ++ List.replicate (2 - (lg_sl ([.ref h0, .int x0])).length) Slot.unset).toArray = ls at hl ⊢
  have hl : lv_has ls 2 [(0, .ref h0), (1, .int x0)] := hl
  refine lv_iload_n hx hb dX4_cut_0 rfl (lv_at hl 1 rfl) ?_
  refine lv_if_lt (tgt := 17) hx hb dX4_cut_1 (by decide) (fun c1 => absurd c1 (fun z => absurd (show x0.toInt < (0 : Int) from Int32.lt_iff_toInt_lt.mp z) (by omega))) (fun c1 => ?_)
  refine lv_iload_n hx hb dX4_cut_4 rfl (lv_at hl 1 rfl) ?_
  refine lv_aload_n hx hb dX4_cut_5 rfl (lv_at hl 0 rfl) ?_
  refine va_get (D := (dC, dI)) (ci := 11) (v := .int x1) (C := RX4) (T := TX4) (N := 2) hx hb hta naX4 hown hK hP 0 rfl rfl 1 (by decide) (hta _ wm14) (fun _ h9 => h9) rfl dX4_cut_6 ?_
  refine lv_icmp_ge (tgt := 17) hx hb dX4_cut_9 (by decide) (fun c2 => ?_) (fun c2 => ?_)
  · have ec2 : x1.toInt ≤ x0.toInt := Int32.le_iff_toInt_le.mp c2
    have w3 : x1 = (ns_cut x1 x0) := (by unfold ns_cut; (repeat' split) <;> first | rfl | (exfalso; omega))
    have hP : va_P (dC, dI) vwCl [(h0, .inr (11, [v0, .int (ns_cut x1 x0)]))] s.heap := by rw [← w3]; exact hP
    have hD : va_D A [(h0, .inr (11, [v0, .int (ns_cut x1 x0)]))] := by rw [← w3]; exact hD
    have hP9 := hP.sub (ws' := [(h0, .inr (11, [v0, .int (ns_cut x1 x0)]))]) [0] rfl
    have hD9 := hD.sub (ws' := [(h0, .inr (11, [v0, .int (ns_cut x1 x0)]))]) [0] (by decide) rfl
    have hK9 := hK.sub (tys' := []) [] rfl
    refine W.widen (k := 0) (n := 0) (Nat.le_of_ble_eq_true rfl) (Nat.le_of_ble_eq_true rfl) ?_
    exact W.vret hx hb hr (fun t ht hW => ⟨⟨(), rfl, trivial, by rw [ht]; exact hP9, va_K.moved hW.alike hK9, hD9⟩, hS.F ht⟩) hS.2.2 dX4_cut_17
  · have ec2 : ¬ x1.toInt ≤ x0.toInt := fun z => c2 (Int32.le_iff_toInt_le.mpr z)
    refine lv_aload_n hx hb dX4_cut_12 rfl (lv_at hl 0 rfl) ?_
    refine lv_iload_n hx hb dX4_cut_13 rfl (lv_at hl 1 rfl) ?_
    refine va_put (D := (dC, dI)) (ci := 11) (v := .int x0) (ty := .int) (C := RX4) (T := TX4) (N := 2) hx hb hta naX4 tyX4 tyX4_ok nmX4 hown hK hP hD hS 0 rfl rfl 1 (by decide) (hta _ wm14) (fun _ h9 => h9) rfl (by decide +kernel) rfl rfl (Nat.le_of_ble_eq_true rfl) dX4_cut_14 (fun H locs hP hD hS => ?_)
    have hP : va_P (dC, dI) vwCl [(h0, .inr (11, [v0, .int x0]))] H := hP
    have hD : va_D A [(h0, .inr (11, [v0, .int x0]))] := hD
    have w4 : x0 = (ns_cut x1 x0) := (by unfold ns_cut; (repeat' split) <;> first | rfl | (exfalso; omega))
    have hP : va_P (dC, dI) vwCl [(h0, .inr (11, [v0, .int (ns_cut x1 x0)]))] H := by rw [← w4]; exact hP
    have hD : va_D A [(h0, .inr (11, [v0, .int (ns_cut x1 x0)]))] := by rw [← w4]; exact hD
    have hP9 := hP.sub (ws' := [(h0, .inr (11, [v0, .int (ns_cut x1 x0)]))]) [0] rfl
    have hD9 := hD.sub (ws' := [(h0, .inr (11, [v0, .int (ns_cut x1 x0)]))]) [0] (by decide) rfl
    have hK9 := hK.sub (tys' := []) [] rfl
    refine W.widen (k := 0) (n := 0) (Nat.le_of_ble_eq_true rfl) (Nat.le_of_ble_eq_true rfl) ?_
    exact W.vret hx hb hr (fun t ht hW => ⟨⟨(), rfl, trivial, by rw [ht]; exact hP9, va_K.moved hW.alike hK9, hD9⟩, hS.F ht⟩) hS.2.2 dX4_cut_17
set_option maxHeartbeats 4000000 in
set_option maxRecDepth 100000 in
theorem kX16_isIn_23 (l : Launch) (dC : Nat → ClassId) (dI : Nat → Nat → Nat) (g : Nat → Nat) (sz : Nat) (x0 : Int32) : Met l yX16_isIn wbX16_isIn ({ frames := 0, cells := 0, slots := 0, locals := 0 }) (va_Pc [.int x0, .int (-1), .int 21] (fun U => U.heap.size = sz ∧ va_P (dC, dI) vwCl [] U.heap ∧ va_K (dC, dI) vwCl [] U ∧ va_D (fun _ => True) [] ∧ ns_F g (va_A [] sz) U U.heap)) (va_Qi (fun (r : Int32) (_ : Unit) => r = (ns_in x0 (-1) 21)) (fun _ t => va_P (dC, dI) vwCl [] t.heap ∧ va_K (dC, dI) vwCl [] t ∧ va_D (va_A [] sz) []) (va_A [] sz)) 0 0 (va_A [] sz) := by
  refine Met.ofW (cc := cX16_isIn) (maxL := 3) (ret := (some .boolean)) (by decide) rfl ?_
  intro p e s m args below meth c s₁ B hml hv
  obtain ⟨rfl, hsz, hP, hK, hD0, hF⟩ := hv
  have hx := B.exec
  have hb := B.bytes
  have hr := B.returns
  have hts := atoms_spec (ws := wbX16_isIn) B.pre
  have hta : ∀ w ∈ wsALL, w.before _ s = true := fun w h => hts w (List.mem_cons_of_mem _ h)
  have hown : s.vm.findClass RX16 = some m.cls := findClass_of_methodNamed B.named
  have hlocks := B.notSynchronized
  subst hsz
  have hD := hD0.self (sz := s.heap.size)
  generalize hAe : va_A [] s.heap.size = A at hD hF ⊢
  have hA : ∀ q : Nat, s.heap.size ≤ q → A q := fun q h => by rw [← hAe]; exact Or.inr h
  have hS : va_S A s.heap s.heap [] := va_S.rf
  have hP : va_P (dC, dI) vwCl [] s.heap := hP
  have hl := lv_entry ([.int x0, .int (-1), .int 21]) (n := 3) (Nat.le_of_ble_eq_true rfl)
  rw [lg_entry_eq]
  generalize (lg_sl ([.int x0, .int (-1), .int 21]) ++ List.replicate (3 - (lg_sl ([.int x0, .int (-1), .int 21])).length) Slot.unset).toArray = ls at hl ⊢
  have hl : lv_has ls 3 [(0, .int x0), (1, .int (-1)), (2, .int 21)] := hl
  refine lv_iload_n hx hb dX16_isIn_0 rfl (lv_at hl 0 rfl) ?_
  refine lv_iload_n hx hb dX16_isIn_1 rfl (lv_at hl 1 rfl) ?_
  refine lv_icmp_lt (tgt := 14) hx hb dX16_isIn_2 (by decide) (fun c1 => ?_) (fun c1 => ?_)
  · have ec1 : x0.toInt < (-1 : Int) := Int32.lt_iff_toInt_lt.mp c1
    refine lv_iconst (v := 0) hx hb dX16_isIn_14 (by decide) ?_
    have hP9 := hP.sub (ws' := []) [] rfl
    have hD9 := hD.sub (ws' := []) [] (by decide) rfl
    have hK9 := hK.sub (tys' := []) [] rfl
    refine W.widen (k := 0) (n := 0) (Nat.le_of_ble_eq_true rfl) (Nat.le_of_ble_eq_true rfl) ?_
    have hz9 : 0 = (ns_in x0 (-1) 21) := (by have a1 : Int32.toInt (-1) = -1 := (by decide); have a2 : Int32.toInt 21 = 21 := (by decide); unfold ns_in; (repeat' split) <;> first | rfl | (exfalso; omega))
    exact W.zret (v := 0) hx hb hr (by decide) (fun t ht hW => ⟨⟨_, (), rfl, hz9, by rw [ht]; exact hP9, va_K.moved hW.alike hK9, hD9⟩, hS.F ht⟩) hS.2.2 dX16_isIn_15
  · have ec1 : ¬ x0.toInt < (-1 : Int) := fun z => c1 (Int32.lt_iff_toInt_lt.mpr z)
    refine lv_iload_n hx hb dX16_isIn_5 rfl (lv_at hl 0 rfl) ?_
    refine lv_iload_n hx hb dX16_isIn_6 rfl (lv_at hl 2 rfl) ?_
    refine lv_icmp_gt (tgt := 14) hx hb dX16_isIn_7 (by decide) (fun c2 => ?_) (fun c2 => ?_)
    · have ec2 : (21 : Int) < x0.toInt := Int32.lt_iff_toInt_lt.mp c2
      refine lv_iconst (v := 0) hx hb dX16_isIn_14 (by decide) ?_
      have hP9 := hP.sub (ws' := []) [] rfl
      have hD9 := hD.sub (ws' := []) [] (by decide) rfl
      have hK9 := hK.sub (tys' := []) [] rfl
      refine W.widen (k := 0) (n := 0) (Nat.le_of_ble_eq_true rfl) (Nat.le_of_ble_eq_true rfl) ?_
      have hz9 : 0 = (ns_in x0 (-1) 21) := (by have a1 : Int32.toInt (-1) = -1 := (by decide); have a2 : Int32.toInt 21 = 21 := (by decide); unfold ns_in; (repeat' split) <;> first | rfl | (exfalso; omega))
      exact W.zret (v := 0) hx hb hr (by decide) (fun t ht hW => ⟨⟨_, (), rfl, hz9, by rw [ht]; exact hP9, va_K.moved hW.alike hK9, hD9⟩, hS.F ht⟩) hS.2.2 dX16_isIn_15
    · have ec2 : ¬ (21 : Int) < x0.toInt := fun z => c2 (Int32.lt_iff_toInt_lt.mpr z)
      refine lv_iconst (v := 1) hx hb dX16_isIn_10 (by decide) ?_
      refine lv_goto (tgt := 15) hx hb dX16_isIn_11 (by decide) ?_
      have hP9 := hP.sub (ws' := []) [] rfl
      have hD9 := hD.sub (ws' := []) [] (by decide) rfl
      have hK9 := hK.sub (tys' := []) [] rfl
      refine W.widen (k := 0) (n := 0) (Nat.le_of_ble_eq_true rfl) (Nat.le_of_ble_eq_true rfl) ?_
      have hz9 : 1 = (ns_in x0 (-1) 21) := (by have a1 : Int32.toInt (-1) = -1 := (by decide); have a2 : Int32.toInt 21 = 21 := (by decide); unfold ns_in; (repeat' split) <;> first | rfl | (exfalso; omega))
      exact W.zret (v := 1) hx hb hr (by decide) (fun t ht hW => ⟨⟨_, (), rfl, hz9, by rw [ht]; exact hP9, va_K.moved hW.alike hK9, hD9⟩, hS.F ht⟩) hS.2.2 dX16_isIn_15
set_option maxHeartbeats 4000000 in
set_option maxRecDepth 100000 in
theorem kX16_typed (l : Launch) (dC : Nat → ClassId) (dI : Nat → Nat → Nat) (g : Nat → Nat) (sz : Nat) (h0 : Nat) (v0 : Value) (v1 : Value) (v2 : Value) (v3 : Value) (v4 : Value) (v5 : Value) (v6 : Value) (v7 : Value) : Met l yX16_typed wbX16_typed ({ frames := 0, cells := 0, slots := 0, locals := 0 }) (va_Pc [.ref h0] (fun U => U.heap.size = sz ∧ va_P (dC, dI) vwCl [(h0, .inr (23, [v0, v1, v2, v3, .ref (g 34), v4, v5, v6, v7]))] U.heap ∧ va_K (dC, dI) vwCl [] U ∧ va_D (fun _ => True) [(h0, .inr (23, [v0, v1, v2, v3, .ref (g 34), v4, v5, v6, v7]))] ∧ ns_F g (va_A [(h0, .inr (23, [v0, v1, v2, v3, .ref (g 34), v4, v5, v6, v7]))] sz) U U.heap)) (va_Qr (fun _ : Unit => True) (fun _ r t => r = (g 34) ∧ va_P (dC, dI) vwCl [(h0, .inr (23, [.int 0, v1, v2, v3, .ref (g 34), v4, v5, v6, v7]))] t.heap ∧ va_K (dC, dI) vwCl [] t ∧ va_D (va_A [(h0, .inr (23, [v0, v1, v2, v3, .ref (g 34), v4, v5, v6, v7]))] sz) [(h0, .inr (23, [.int 0, v1, v2, v3, .ref (g 34), v4, v5, v6, v7]))]) (va_A [(h0, .inr (23, [v0, v1, v2, v3, .ref (g 34), v4, v5, v6, v7]))] sz)) 0 0 (va_A [(h0, .inr (23, [v0, v1, v2, v3, .ref (g 34), v4, v5, v6, v7]))] sz) := by
  refine Met.ofW (cc := cX16_typed) (maxL := 1) (ret := (some (.object "java/lang/String"))) (by decide) rfl ?_
  intro p e s m args below meth c s₁ B hml hv
  obtain ⟨rfl, hsz, hP, hK, hD0, hF⟩ := hv
  have hx := B.exec
  have hb := B.bytes
  have hr := B.returns
  have hts := atoms_spec (ws := wbX16_typed) B.pre
  have hta : ∀ w ∈ wsALL, w.before _ s = true := fun w h => hts w (List.mem_cons_of_mem _ h)
  have hown : s.vm.findClass RX16 = some m.cls := findClass_of_methodNamed B.named
  have hlocks := B.notSynchronized
  subst hsz
  have hD := hD0.self (sz := s.heap.size)
  generalize hAe : va_A [(h0, .inr (23, [v0, v1, v2, v3, .ref (g 34), v4, v5, v6, v7]))] s.heap.size = A at hD hF ⊢
  have hA : ∀ q : Nat, s.heap.size ≤ q → A q := fun q h => by rw [← hAe]; exact Or.inr h
  have hS : va_S A s.heap s.heap [] := va_S.rf
  have hP : va_P (dC, dI) vwCl [(h0, .inr (23, [v0, v1, v2, v3, .ref (g 34), v4, v5, v6, v7]))] s.heap := hP
  have hl := lv_entry ([.ref h0]) (n := 1) (Nat.le_of_ble_eq_true rfl)
  rw [lg_entry_eq]
  generalize (lg_sl ([.ref h0]) ++ List.replicate (1 - (lg_sl ([.ref h0])).length) Slot.unset).toArray = ls at hl ⊢
  have hl : lv_has ls 1 [(0, .ref h0)] := hl
  refine lv_aload_n hx hb dX16_typed_0 rfl (lv_at hl 0 rfl) ?_
  refine lv_iconst (v := 0) hx hb dX16_typed_1 (by decide) ?_
  refine va_put (D := (dC, dI)) (ci := 23) (v := .int 0) (ty := .int) (C := RX16) (T := TX16) (N := 9) hx hb hta naX16 tyX16 tyX16_ok nmX16 hown hK hP hD hS 0 rfl rfl 0 (by decide) (hta _ wm234) (fun _ h9 => h9) rfl (by decide +kernel) rfl rfl (Nat.le_of_ble_eq_true rfl) dX16_typed_2 (fun H locs hP hD hS => ?_)
  have hP : va_P (dC, dI) vwCl [(h0, .inr (23, [.int 0, v1, v2, v3, .ref (g 34), v4, v5, v6, v7]))] H := hP
  have hD : va_D A [(h0, .inr (23, [.int 0, v1, v2, v3, .ref (g 34), v4, v5, v6, v7]))] := hD
  refine lv_aload_n hx hb dX16_typed_5 rfl (lv_at hl 0 rfl) ?_
  refine va_get (D := (dC, dI)) (ci := 23) (v := .ref (g 34)) (C := RX16) (T := TX16) (N := 9) hx hb hta naX16 hown hK hP 0 rfl rfl 4 (by decide) (hta _ wm213) (fun _ h9 => h9) rfl dX16_typed_6 ?_
  have hP9 := hP.sub (ws' := [(h0, .inr (23, [.int 0, v1, v2, v3, .ref (g 34), v4, v5, v6, v7]))]) [0] rfl
  have hD9 := hD.sub (ws' := [(h0, .inr (23, [.int 0, v1, v2, v3, .ref (g 34), v4, v5, v6, v7]))]) [0] (by decide) rfl
  have hK9 := hK.sub (tys' := []) [] rfl
  refine W.widen (k := 0) (n := 0) (Nat.le_of_ble_eq_true rfl) (Nat.le_of_ble_eq_true rfl) ?_
  exact W.aret (v := .ref (g 34)) hx hb hr (by first | exact Or.inl ⟨_, rfl⟩ | exact Or.inr ⟨_, rfl⟩) (Or.inr ⟨_, rfl⟩) (fun t ht hW => ⟨⟨(), _, rfl, trivial, rfl, by rw [ht]; exact hP9, va_K.moved hW.alike hK9, hD9⟩, hS.F ht⟩) hS.2.2 dX16_typed_9
set_option maxHeartbeats 4000000 in
set_option maxRecDepth 100000 in
theorem kX9_mark_3 (l : Launch) (dC : Nat → ClassId) (dI : Nat → Nat → Nat) (g : Nat → Nat) (sz : Nat) (h0 : Nat) (x0 : Int32) (ex0 : (5 : Int) ≤ x0.toInt ∧ x0.toInt ≤ (2147483647 : Int)) (hlt : l.stackTraces = false) : vx_Met l yX9_mark wbX9_mark ({ frames := 6, cells := 1, slots := 6, locals := 82 }) (va_Pc [.ref h0, .int x0] (fun U => U.heap.size = sz ∧ va_P (dC, dI) vwCl [] U.heap ∧ va_K (dC, dI) vwCl [] U ∧ va_D (fun _ => True) [] ∧ ns_F g (va_A [] sz) U U.heap)) (va_Qv (fun _ : Unit => False) (fun _ _ => True) (va_A [] sz)) (vx_X (fun _ : Unit => True) (fun E _ _ => E = "java/lang/IllegalArgumentException") (va_A [] sz)) 1 6 (va_A [] sz) := by
  refine vx_ofW (cc := cX9_mark) (maxL := 2) (ret := (some .int)) (by decide) rfl ?_
  intro p e s m args below meth c s₁ B hml hnox hv
  obtain ⟨rfl, hsz, hP, hK, hD0, hF⟩ := hv
  have hx := B.exec
  have hb := B.bytes
  have hr := B.returns
  have hts := atoms_spec (ws := wbX9_mark) B.pre
  have hta : ∀ w ∈ wsALL, w.before _ s = true := fun w h => hts w (List.mem_cons_of_mem _ h)
  have hown : s.vm.findClass RX9 = some m.cls := findClass_of_methodNamed B.named
  have hlocks := B.notSynchronized
  subst hsz
  have hD := hD0.self (sz := s.heap.size)
  generalize hAe : va_A [] s.heap.size = A at hD hF ⊢
  have hA : ∀ q : Nat, s.heap.size ≤ q → A q := fun q h => by rw [← hAe]; exact Or.inr h
  have hS : va_S A s.heap s.heap [] := va_S.rf
  have hP : va_P (dC, dI) vwCl [] s.heap := hP
  have hl := lv_entry ([.ref h0, .int x0]) (n := 2) (Nat.le_of_ble_eq_true rfl)
  rw [lg_entry_eq]
  generalize (lg_sl ([.ref h0, .int x0]) ++ List.replicate (2 - (lg_sl ([.ref h0, .int x0])).length) Slot.unset).toArray = ls at hl ⊢
  have hl : lv_has ls 2 [(0, .ref h0), (1, .int x0)] := hl
  refine lv_iload_n hx hb dX9_mark_0 rfl (lv_at hl 1 rfl) ?_
  refine lv_iconst (v := 1) hx hb dX9_mark_1 (by decide) ?_
  refine lv_icmp_lt (tgt := 10) hx hb dX9_mark_2 (by decide) (fun c1 => absurd c1 (fun z => absurd (show x0.toInt < (1 : Int) from Int32.lt_iff_toInt_lt.mp z) (by omega))) (fun c1 => ?_)
  refine lv_iload_n hx hb dX9_mark_5 rfl (lv_at hl 1 rfl) ?_
  refine lv_iconst (v := 4) hx hb dX9_mark_6 (by decide) ?_
  refine lv_icmp_le (tgt := 20) hx hb dX9_mark_7 (by decide) (fun c2 => absurd c2 (fun z => absurd (show x0.toInt ≤ (4 : Int) from Int32.le_iff_toInt_le.mp z) (by omega))) (fun c2 => ?_)
  exact vx_throwS hx hb hlt (text := "kind is 1 to 4") (sa := (g 14)) (names := ["java/lang/RuntimeException", "java/lang/Exception"]) hown (by decide) (by decide) (hta _ wm225) (hta _ wm226) (ns_f23 hF) (vx_hat (B := [.declares ⟨"java/lang/RuntimeException", "<init>", "(Ljava/lang/String;)V"⟩, .declares ⟨"java/lang/Exception", "<init>", "(Ljava/lang/String;)V"⟩, .declares ⟨"java/lang/Throwable", "<init>", "(Ljava/lang/String;)V"⟩, .castable "java/lang/IllegalArgumentException" "java/lang/IllegalArgumentException"]) (fun w9 h9 => hta w9 (vm0 w9 h9)) (by decide +kernel) (vx_c (va_Nw.use rfl (ns_f12 hF)) (vx_c (va_Nw.use rfl (ns_f13 hF)) (vx_c (va_Nw.use rfl (ns_f14 hF)) (vx_c (va_Nw.use rfl (ns_f11 hF)) vx_n))))) (by decide +kernel) (ns_f18 hF) (ns_f19 hF) hS (by rw [hml]; exact hl.1) dX9_mark_10 dX9_mark_13 dX9_mark_14 dX9_mark_16 dX9_mark_19 (fun x hx => (hnox x hx).elim) (Nat.le_of_ble_eq_true rfl) (Nat.le_of_ble_eq_true rfl) (Nat.le_of_ble_eq_true rfl) (Nat.le_of_ble_eq_true rfl) hlocks (fun t9 hal hsz9 hk9 => ⟨(), trivial, rfl, Nat.le_trans hS.1 hsz9, fun q hq1 hq2 => (hk9 q (Nat.lt_of_lt_of_le hq1 hS.1)).trans (hS.2.1 q hq1 hq2)⟩) hS.2.2 (Nat.le_of_ble_eq_true rfl) (Nat.le_of_ble_eq_true rfl)
set_option maxHeartbeats 4000000 in
set_option maxRecDepth 100000 in
theorem kJ0_isEmpty_aae02_5 (l : Launch) (dC : Nat → ClassId) (dI : Nat → Nat → Nat) (g : Nat → Nat) (sz : Nat) (h0 : Nat) (h1 : Nat) (v0 : Value) (v1 : Value) (v2 : Value) (cc0 : ClassId) (f0 : Nat → Int32) (hf0 : sb_Fit f0) : Met l yJ0_isEmpty_aae02 wbJ0_isEmpty_aae02 ({ frames := 0, cells := 0, slots := 0, locals := 0 }) (va_Pc [.ref h0] (fun U => U.heap.size = sz ∧ va_P (dC, dI) vwCl [(h0, .inr (0, [.ref h1, v0, v1, v2])), (h1, .inl (cc0, 4, .inl f0))] U.heap ∧ va_K (dC, dI) vwCl [(cc0, .byte)] U ∧ va_D (fun _ => True) [(h0, .inr (0, [.ref h1, v0, v1, v2])), (h1, .inl (cc0, 4, .inl f0))] ∧ ns_F g (va_A [(h0, .inr (0, [.ref h1, v0, v1, v2])), (h1, .inl (cc0, 4, .inl f0))] sz) U U.heap)) (va_Qi (fun (r : Int32) (_ : Unit) => r = 0) (fun _ t => va_P (dC, dI) vwCl [(h0, .inr (0, [.ref h1, v0, v1, v2])), (h1, .inl (cc0, 4, .inl f0))] t.heap ∧ va_K (dC, dI) vwCl [(cc0, .byte)] t ∧ va_D (va_A [(h0, .inr (0, [.ref h1, v0, v1, v2])), (h1, .inl (cc0, 4, .inl f0))] sz) [(h0, .inr (0, [.ref h1, v0, v1, v2])), (h1, .inl (cc0, 4, .inl f0))]) (va_A [(h0, .inr (0, [.ref h1, v0, v1, v2])), (h1, .inl (cc0, 4, .inl f0))] sz)) 0 0 (va_A [(h0, .inr (0, [.ref h1, v0, v1, v2])), (h1, .inl (cc0, 4, .inl f0))] sz) := by
  refine Met.ofW (cc := cJ0_isEmpty_aae02) (maxL := 1) (ret := (some .boolean)) (by decide) rfl ?_
  intro p e s m args below meth c s₁ B hml hv
  obtain ⟨rfl, hsz, hP, hK, hD0, hF⟩ := hv
  have hx := B.exec
  have hb := B.bytes
  have hr := B.returns
  have hts := atoms_spec (ws := wbJ0_isEmpty_aae02) B.pre
  have hta : ∀ w ∈ wsALL, w.before _ s = true := fun w h => hts w (List.mem_cons_of_mem _ h)
  have hown : s.vm.findClass RJ0 = some m.cls := findClass_of_methodNamed B.named
  have hlocks := B.notSynchronized
  subst hsz
  have hD := hD0.self (sz := s.heap.size)
  generalize hAe : va_A [(h0, .inr (0, [.ref h1, v0, v1, v2])), (h1, .inl (cc0, 4, .inl f0))] s.heap.size = A at hD hF ⊢
  have hA : ∀ q : Nat, s.heap.size ≤ q → A q := fun q h => by rw [← hAe]; exact Or.inr h
  have hS : va_S A s.heap s.heap [] := va_S.rf
  have hP : va_P (dC, dI) vwCl [(h0, .inr (0, [.ref h1, v0, v1, v2])), (h1, .inl (cc0, 4, .inl f0))] s.heap := hP
  have hl := lv_entry ([.ref h0]) (n := 1) (Nat.le_of_ble_eq_true rfl)
  rw [lg_entry_eq]
  generalize (lg_sl ([.ref h0]) ++ List.replicate (1 - (lg_sl ([.ref h0])).length) Slot.unset).toArray = ls at hl ⊢
  have hl : lv_has ls 1 [(0, .ref h0)] := hl
  refine lv_aload_n hx hb dJ0_isEmpty_aae02_0 rfl (lv_at hl 0 rfl) ?_
  refine va_get (D := (dC, dI)) (ci := 0) (v := .ref h1) (C := RJ0) (T := TJ0) (N := 4) hx hb hta naJ0 hown hK hP 0 rfl rfl 0 (by decide) (hta _ wm341) (fun _ h9 => h9) rfl dJ0_isEmpty_aae02_1 ?_
  refine va_alen (v := 4) hx hb hK hP 1 0 rfl rfl (show Int32.ofNat 4 = 4 by decide) dJ0_isEmpty_aae02_4 ?_
  refine lv_if_ne (tgt := 12) hx hb dJ0_isEmpty_aae02_5 (by decide) (fun c1 => ?_) (fun c1 => absurd c1 (by decide))
  refine lv_iconst (v := 0) hx hb dJ0_isEmpty_aae02_12 (by decide) ?_
  have hP9 := hP.sub (ws' := [(h0, .inr (0, [.ref h1, v0, v1, v2])), (h1, .inl (cc0, 4, .inl f0))]) [0, 1] rfl
  have hD9 := hD.sub (ws' := [(h0, .inr (0, [.ref h1, v0, v1, v2])), (h1, .inl (cc0, 4, .inl f0))]) [0, 1] (by decide) rfl
  have hK9 := hK.sub (tys' := [(cc0, .byte)]) [0] rfl
  refine W.widen (k := 0) (n := 0) (Nat.le_of_ble_eq_true rfl) (Nat.le_of_ble_eq_true rfl) ?_
  exact W.zret (v := 0) hx hb hr (by decide) (fun t ht hW => ⟨⟨_, (), rfl, rfl, by rw [ht]; exact hP9, va_K.moved hW.alike hK9, hD9⟩, hS.F ht⟩) hS.2.2 dJ0_isEmpty_aae02_13
set_option maxHeartbeats 4000000 in
set_option maxRecDepth 100000 in
theorem kX9_word_3 (l : Launch) (dC : Nat → ClassId) (dI : Nat → Nat → Nat) (g : Nat → Nat) (sz : Nat) (h0 : Nat) (x0 : Int32) (ex0 : (-2147483648 : Int) ≤ x0.toInt ∧ x0.toInt ≤ (-1 : Int)) (hlt : l.stackTraces = false) : vx_Met l yX9_word wbX9_word ({ frames := 6, cells := 1, slots := 6, locals := 82 }) (va_Pc [.ref h0, .int x0, .int 2] (fun U => U.heap.size = sz ∧ va_P (dC, dI) vwCl [] U.heap ∧ va_K (dC, dI) vwCl [] U ∧ va_D (fun _ => True) [] ∧ ns_F g (va_A [] sz) U U.heap)) (va_Qv (fun _ : Unit => False) (fun _ _ => True) (va_A [] sz)) (vx_X (fun _ : Unit => True) (fun E _ _ => E = "java/lang/IllegalArgumentException") (va_A [] sz)) 1 6 (va_A [] sz) := by
  refine vx_ofW (cc := cX9_word) (maxL := 4) (ret := (some .int)) (by decide) rfl ?_
  intro p e s m args below meth c s₁ B hml hnox hv
  obtain ⟨rfl, hsz, hP, hK, hD0, hF⟩ := hv
  have hx := B.exec
  have hb := B.bytes
  have hr := B.returns
  have hts := atoms_spec (ws := wbX9_word) B.pre
  have hta : ∀ w ∈ wsALL, w.before _ s = true := fun w h => hts w (List.mem_cons_of_mem _ h)
  have hown : s.vm.findClass RX9 = some m.cls := findClass_of_methodNamed B.named
  have hlocks := B.notSynchronized
  subst hsz
  have hD := hD0.self (sz := s.heap.size)
  generalize hAe : va_A [] s.heap.size = A at hD hF ⊢
  have hA : ∀ q : Nat, s.heap.size ≤ q → A q := fun q h => by rw [← hAe]; exact Or.inr h
  have hS : va_S A s.heap s.heap [] := va_S.rf
  have hP : va_P (dC, dI) vwCl [] s.heap := hP
  have hl := lv_entry ([.ref h0, .int x0, .int 2]) (n := 4) (Nat.le_of_ble_eq_true rfl)
  rw [lg_entry_eq]
  generalize (lg_sl ([.ref h0, .int x0, .int 2]) ++ List.replicate (4 - (lg_sl ([.ref h0, .int x0, .int 2])).length) Slot.unset).toArray = ls at hl ⊢
  have hl : lv_has ls 4 [(0, .ref h0), (1, .int x0), (2, .int 2)] := hl
  refine lv_iload_n hx hb dX9_word_0 rfl (lv_at hl 1 rfl) ?_
  refine lv_if_lt (tgt := 10) hx hb dX9_word_1 (by decide) (fun c1 => ?_) (fun c1 => absurd (show x0 < (0 : Int32) from Int32.lt_iff_toInt_lt.mpr (show x0.toInt < (0 : Int) by omega)) c1)
  exact vx_throwS hx hb hlt (text := "letter is 0 to 25") (sa := (g 10)) (names := ["java/lang/RuntimeException", "java/lang/Exception"]) hown (by decide) (by decide) (hta _ wm225) (hta _ wm226) (ns_f21 hF) (vx_hat (B := [.declares ⟨"java/lang/RuntimeException", "<init>", "(Ljava/lang/String;)V"⟩, .declares ⟨"java/lang/Exception", "<init>", "(Ljava/lang/String;)V"⟩, .declares ⟨"java/lang/Throwable", "<init>", "(Ljava/lang/String;)V"⟩, .castable "java/lang/IllegalArgumentException" "java/lang/IllegalArgumentException"]) (fun w9 h9 => hta w9 (vm0 w9 h9)) (by decide +kernel) (vx_c (va_Nw.use rfl (ns_f12 hF)) (vx_c (va_Nw.use rfl (ns_f13 hF)) (vx_c (va_Nw.use rfl (ns_f14 hF)) (vx_c (va_Nw.use rfl (ns_f11 hF)) vx_n))))) (by decide +kernel) (ns_f18 hF) (ns_f19 hF) hS (by rw [hml]; exact hl.1) dX9_word_10 dX9_word_13 dX9_word_14 dX9_word_16 dX9_word_19 (fun x hx => (hnox x hx).elim) (Nat.le_of_ble_eq_true rfl) (Nat.le_of_ble_eq_true rfl) (Nat.le_of_ble_eq_true rfl) (Nat.le_of_ble_eq_true rfl) hlocks (fun t9 hal hsz9 hk9 => ⟨(), trivial, rfl, Nat.le_trans hS.1 hsz9, fun q hq1 hq2 => (hk9 q (Nat.lt_of_lt_of_le hq1 hS.1)).trans (hS.2.1 q hq1 hq2)⟩) hS.2.2 (Nat.le_of_ble_eq_true rfl) (Nat.le_of_ble_eq_true rfl)
set_option maxHeartbeats 4000000 in
set_option maxRecDepth 100000 in
theorem kX9_house (l : Launch) (dC : Nat → ClassId) (dI : Nat → Nat → Nat) (g : Nat → Nat) (sz : Nat) (h0 : Nat) (x0 : Int32) (ex0 : (-2147483648 : Int) ≤ x0.toInt ∧ x0.toInt ≤ (-1 : Int)) (hlt : l.stackTraces = false) : vx_Met l yX9_house wbX9_house ({ frames := 6, cells := 1, slots := 6, locals := 82 }) (va_Pc [.ref h0, .int x0] (fun U => U.heap.size = sz ∧ va_P (dC, dI) vwCl [] U.heap ∧ va_K (dC, dI) vwCl [] U ∧ va_D (fun _ => True) [] ∧ ns_F g (va_A [] sz) U U.heap)) (va_Qv (fun _ : Unit => False) (fun _ _ => True) (va_A [] sz)) (vx_X (fun _ : Unit => True) (fun E _ _ => E = "java/lang/IllegalArgumentException") (va_A [] sz)) 1 6 (va_A [] sz) := by
  refine vx_ofW (cc := cX9_house) (maxL := 2) (ret := (some .int)) (by decide) rfl ?_
  intro p e s m args below meth c s₁ B hml hnox hv
  obtain ⟨rfl, hsz, hP, hK, hD0, hF⟩ := hv
  have hx := B.exec
  have hb := B.bytes
  have hr := B.returns
  have hts := atoms_spec (ws := wbX9_house) B.pre
  have hta : ∀ w ∈ wsALL, w.before _ s = true := fun w h => hts w (List.mem_cons_of_mem _ h)
  have hown : s.vm.findClass RX9 = some m.cls := findClass_of_methodNamed B.named
  have hlocks := B.notSynchronized
  subst hsz
  have hD := hD0.self (sz := s.heap.size)
  generalize hAe : va_A [] s.heap.size = A at hD hF ⊢
  have hA : ∀ q : Nat, s.heap.size ≤ q → A q := fun q h => by rw [← hAe]; exact Or.inr h
  have hS : va_S A s.heap s.heap [] := va_S.rf
  have hP : va_P (dC, dI) vwCl [] s.heap := hP
  have hl := lv_entry ([.ref h0, .int x0]) (n := 2) (Nat.le_of_ble_eq_true rfl)
  rw [lg_entry_eq]
  generalize (lg_sl ([.ref h0, .int x0]) ++ List.replicate (2 - (lg_sl ([.ref h0, .int x0])).length) Slot.unset).toArray = ls at hl ⊢
  have hl : lv_has ls 2 [(0, .ref h0), (1, .int x0)] := hl
  refine lv_iload_n hx hb dX9_house_0 rfl (lv_at hl 1 rfl) ?_
  refine lv_if_lt (tgt := 10) hx hb dX9_house_1 (by decide) (fun c1 => ?_) (fun c1 => absurd (show x0 < (0 : Int32) from Int32.lt_iff_toInt_lt.mpr (show x0.toInt < (0 : Int) by omega)) c1)
  exact vx_throwS hx hb hlt (text := "what is 0 to 7") (sa := (g 18)) (names := ["java/lang/RuntimeException", "java/lang/Exception"]) hown (by decide) (by decide) (hta _ wm225) (hta _ wm226) (ns_f25 hF) (vx_hat (B := [.declares ⟨"java/lang/RuntimeException", "<init>", "(Ljava/lang/String;)V"⟩, .declares ⟨"java/lang/Exception", "<init>", "(Ljava/lang/String;)V"⟩, .declares ⟨"java/lang/Throwable", "<init>", "(Ljava/lang/String;)V"⟩, .castable "java/lang/IllegalArgumentException" "java/lang/IllegalArgumentException"]) (fun w9 h9 => hta w9 (vm0 w9 h9)) (by decide +kernel) (vx_c (va_Nw.use rfl (ns_f12 hF)) (vx_c (va_Nw.use rfl (ns_f13 hF)) (vx_c (va_Nw.use rfl (ns_f14 hF)) (vx_c (va_Nw.use rfl (ns_f11 hF)) vx_n))))) (by decide +kernel) (ns_f18 hF) (ns_f19 hF) hS (by rw [hml]; exact hl.1) dX9_house_10 dX9_house_13 dX9_house_14 dX9_house_16 dX9_house_19 (fun x hx => (hnox x hx).elim) (Nat.le_of_ble_eq_true rfl) (Nat.le_of_ble_eq_true rfl) (Nat.le_of_ble_eq_true rfl) (Nat.le_of_ble_eq_true rfl) hlocks (fun t9 hal hsz9 hk9 => ⟨(), trivial, rfl, Nat.le_trans hS.1 hsz9, fun q hq1 hq2 => (hk9 q (Nat.lt_of_lt_of_le hq1 hS.1)).trans (hS.2.1 q hq1 hq2)⟩) hS.2.2 (Nat.le_of_ble_eq_true rfl) (Nat.le_of_ble_eq_true rfl)
set_option maxHeartbeats 4000000 in
set_option maxRecDepth 100000 in
theorem kJ3_checkFromToIndex_8c36e_8 (l : Launch) (dC : Nat → ClassId) (dI : Nat → Nat → Nat) (g : Nat → Nat) (sz : Nat)  : Met l yJ3_checkFromToIndex_8c36e wbJ3_checkFromToIndex_8c36e ({ frames := 0, cells := 0, slots := 0, locals := 0 }) (va_Pc [.int 0, .int 3, .int 4, .ref (g 1)] (fun U => U.heap.size = sz ∧ va_P (dC, dI) vwCl [] U.heap ∧ va_K (dC, dI) vwCl [] U ∧ va_D (fun _ => True) [] ∧ ns_F g (va_A [] sz) U U.heap)) (va_Qi (fun (r : Int32) (_ : Unit) => r = 0) (fun _ t => va_P (dC, dI) vwCl [] t.heap ∧ va_K (dC, dI) vwCl [] t ∧ va_D (va_A [] sz) []) (va_A [] sz)) 0 0 (va_A [] sz) := by
  refine Met.ofW (cc := cJ3_checkFromToIndex_8c36e) (maxL := 4) (ret := (some .int)) (by decide) rfl ?_
  intro p e s m args below meth c s₁ B hml hv
  obtain ⟨rfl, hsz, hP, hK, hD0, hF⟩ := hv
  have hx := B.exec
  have hb := B.bytes
  have hr := B.returns
  have hts := atoms_spec (ws := wbJ3_checkFromToIndex_8c36e) B.pre
  have hta : ∀ w ∈ wsALL, w.before _ s = true := fun w h => hts w (List.mem_cons_of_mem _ h)
  have hown : s.vm.findClass RJ3 = some m.cls := findClass_of_methodNamed B.named
  have hlocks := B.notSynchronized
  subst hsz
  have hD := hD0.self (sz := s.heap.size)
  generalize hAe : va_A [] s.heap.size = A at hD hF ⊢
  have hA : ∀ q : Nat, s.heap.size ≤ q → A q := fun q h => by rw [← hAe]; exact Or.inr h
  have hS : va_S A s.heap s.heap [] := va_S.rf
  have hP : va_P (dC, dI) vwCl [] s.heap := hP
  have hl := lv_entry ([.int 0, .int 3, .int 4, .ref (g 1)]) (n := 4) (Nat.le_of_ble_eq_true rfl)
  rw [lg_entry_eq]
  generalize (lg_sl ([.int 0, .int 3, .int 4, .ref (g 1)]) ++ List.replicate (4 - (lg_sl ([.int 0, .int 3, .int 4, .ref (g 1)])).length) Slot.unset).toArray = ls at hl ⊢
  have hl : lv_has ls 4 [(0, .int 0), (1, .int 3), (2, .int 4), (3, .ref (g 1))] := hl
  refine lv_iload_n hx hb dJ3_checkFromToIndex_8c36e_0 rfl (lv_at hl 0 rfl) ?_
  refine lv_if_lt (tgt := 14) hx hb dJ3_checkFromToIndex_8c36e_1 (by decide) (fun c1 => absurd c1 (by decide)) (fun c1 => ?_)
  refine lv_iload_n hx hb dJ3_checkFromToIndex_8c36e_4 rfl (lv_at hl 0 rfl) ?_
  refine lv_iload_n hx hb dJ3_checkFromToIndex_8c36e_5 rfl (lv_at hl 1 rfl) ?_
  refine lv_icmp_gt (tgt := 14) hx hb dJ3_checkFromToIndex_8c36e_6 (by decide) (fun c2 => absurd c2 (by decide)) (fun c2 => ?_)
  refine lv_iload_n hx hb dJ3_checkFromToIndex_8c36e_9 rfl (lv_at hl 1 rfl) ?_
  refine lv_iload_n hx hb dJ3_checkFromToIndex_8c36e_10 rfl (lv_at hl 2 rfl) ?_
  refine lv_icmp_le (tgt := 22) hx hb dJ3_checkFromToIndex_8c36e_11 (by decide) (fun c3 => ?_) (fun c3 => absurd (by decide) c3)
  refine lv_iload_n hx hb dJ3_checkFromToIndex_8c36e_22 rfl (lv_at hl 0 rfl) ?_
  have hP9 := hP.sub (ws' := []) [] rfl
  have hD9 := hD.sub (ws' := []) [] (by decide) rfl
  have hK9 := hK.sub (tys' := []) [] rfl
  refine W.widen (k := 0) (n := 0) (Nat.le_of_ble_eq_true rfl) (Nat.le_of_ble_eq_true rfl) ?_
  exact W.iret (v := 0) hx hb hr (fun t ht hW => ⟨⟨_, (), rfl, rfl, by rw [ht]; exact hP9, va_K.moved hW.alike hK9, hD9⟩, hS.F ht⟩) hS.2.2 dJ3_checkFromToIndex_8c36e_23
set_option maxHeartbeats 4000000 in
set_option maxRecDepth 100000 in
theorem kJ3_checkIndex_8e157_2 (l : Launch) (dC : Nat → ClassId) (dI : Nat → Nat → Nat) (g : Nat → Nat) (sz : Nat) (x0 : Int32) (ex0 : (0 : Int) ≤ x0.toInt ∧ x0.toInt ≤ (19 : Int)) : Met l yJ3_checkIndex_8e157 wbJ3_checkIndex_8e157 ({ frames := 0, cells := 0, slots := 0, locals := 0 }) (va_Pc [.int x0, .int 20, .ref (g 1)] (fun U => U.heap.size = sz ∧ va_P (dC, dI) vwCl [] U.heap ∧ va_K (dC, dI) vwCl [] U ∧ va_D (fun _ => True) [] ∧ ns_F g (va_A [] sz) U U.heap)) (va_Qi (fun (r : Int32) (_ : Unit) => r = x0) (fun _ t => va_P (dC, dI) vwCl [] t.heap ∧ va_K (dC, dI) vwCl [] t ∧ va_D (va_A [] sz) []) (va_A [] sz)) 0 0 (va_A [] sz) := by
  refine Met.ofW (cc := cJ3_checkIndex_8e157) (maxL := 3) (ret := (some .int)) (by decide) rfl ?_
  intro p e s m args below meth c s₁ B hml hv
  obtain ⟨rfl, hsz, hP, hK, hD0, hF⟩ := hv
  have hx := B.exec
  have hb := B.bytes
  have hr := B.returns
  have hts := atoms_spec (ws := wbJ3_checkIndex_8e157) B.pre
  have hta : ∀ w ∈ wsALL, w.before _ s = true := fun w h => hts w (List.mem_cons_of_mem _ h)
  have hown : s.vm.findClass RJ3 = some m.cls := findClass_of_methodNamed B.named
  have hlocks := B.notSynchronized
  subst hsz
  have hD := hD0.self (sz := s.heap.size)
  generalize hAe : va_A [] s.heap.size = A at hD hF ⊢
  have hA : ∀ q : Nat, s.heap.size ≤ q → A q := fun q h => by rw [← hAe]; exact Or.inr h
  have hS : va_S A s.heap s.heap [] := va_S.rf
  have hP : va_P (dC, dI) vwCl [] s.heap := hP
  have hl := lv_entry ([.int x0, .int 20, .ref (g 1)]) (n := 3) (Nat.le_of_ble_eq_true rfl)
  rw [lg_entry_eq]
  generalize (lg_sl ([.int x0, .int 20, .ref (g 1)]) ++ List.replicate (3 - (lg_sl ([.int x0, .int 20, .ref (g 1)])).length) Slot.unset).toArray = ls at hl ⊢
  have hl : lv_has ls 3 [(0, .int x0), (1, .int 20), (2, .ref (g 1))] := hl
  refine lv_iload_n hx hb dJ3_checkIndex_8e157_0 rfl (lv_at hl 0 rfl) ?_
  refine lv_if_lt (tgt := 9) hx hb dJ3_checkIndex_8e157_1 (by decide) (fun c1 => absurd c1 (fun z => absurd (show x0.toInt < (0 : Int) from Int32.lt_iff_toInt_lt.mp z) (by omega))) (fun c1 => ?_)
  refine lv_iload_n hx hb dJ3_checkIndex_8e157_4 rfl (lv_at hl 0 rfl) ?_
  refine lv_iload_n hx hb dJ3_checkIndex_8e157_5 rfl (lv_at hl 1 rfl) ?_
  refine lv_icmp_lt (tgt := 16) hx hb dJ3_checkIndex_8e157_6 (by decide) (fun c2 => ?_) (fun c2 => absurd (show x0 < (20 : Int32) from Int32.lt_iff_toInt_lt.mpr (show x0.toInt < (20 : Int) by omega)) c2)
  refine lv_iload_n hx hb dJ3_checkIndex_8e157_16 rfl (lv_at hl 0 rfl) ?_
  have hP9 := hP.sub (ws' := []) [] rfl
  have hD9 := hD.sub (ws' := []) [] (by decide) rfl
  have hK9 := hK.sub (tys' := []) [] rfl
  refine W.widen (k := 0) (n := 0) (Nat.le_of_ble_eq_true rfl) (Nat.le_of_ble_eq_true rfl) ?_
  exact W.iret (v := x0) hx hb hr (fun t ht hW => ⟨⟨_, (), rfl, rfl, by rw [ht]; exact hP9, va_K.moved hW.alike hK9, hD9⟩, hS.F ht⟩) hS.2.2 dJ3_checkIndex_8e157_17
set_option maxHeartbeats 4000000 in
set_option maxRecDepth 100000 in
theorem kX16_isIn_13 (l : Launch) (dC : Nat → ClassId) (dI : Nat → Nat → Nat) (g : Nat → Nat) (sz : Nat) (x0 : Int32) (ex0 : (10 : Int) ≤ x0.toInt ∧ x0.toInt ≤ (2147483647 : Int)) : Met l yX16_isIn wbX16_isIn ({ frames := 0, cells := 0, slots := 0, locals := 0 }) (va_Pc [.int x0, .int 1, .int 9] (fun U => U.heap.size = sz ∧ va_P (dC, dI) vwCl [] U.heap ∧ va_K (dC, dI) vwCl [] U ∧ va_D (fun _ => True) [] ∧ ns_F g (va_A [] sz) U U.heap)) (va_Qi (fun (r : Int32) (_ : Unit) => r = 0) (fun _ t => va_P (dC, dI) vwCl [] t.heap ∧ va_K (dC, dI) vwCl [] t ∧ va_D (va_A [] sz) []) (va_A [] sz)) 0 0 (va_A [] sz) := by
  refine Met.ofW (cc := cX16_isIn) (maxL := 3) (ret := (some .boolean)) (by decide) rfl ?_
  intro p e s m args below meth c s₁ B hml hv
  obtain ⟨rfl, hsz, hP, hK, hD0, hF⟩ := hv
  have hx := B.exec
  have hb := B.bytes
  have hr := B.returns
  have hts := atoms_spec (ws := wbX16_isIn) B.pre
  have hta : ∀ w ∈ wsALL, w.before _ s = true := fun w h => hts w (List.mem_cons_of_mem _ h)
  have hown : s.vm.findClass RX16 = some m.cls := findClass_of_methodNamed B.named
  have hlocks := B.notSynchronized
  subst hsz
  have hD := hD0.self (sz := s.heap.size)
  generalize hAe : va_A [] s.heap.size = A at hD hF ⊢
  have hA : ∀ q : Nat, s.heap.size ≤ q → A q := fun q h => by rw [← hAe]; exact Or.inr h
  have hS : va_S A s.heap s.heap [] := va_S.rf
  have hP : va_P (dC, dI) vwCl [] s.heap := hP
  have hl := lv_entry ([.int x0, .int 1, .int 9]) (n := 3) (Nat.le_of_ble_eq_true rfl)
  rw [lg_entry_eq]
  generalize (lg_sl ([.int x0, .int 1, .int 9]) ++ List.replicate (3 - (lg_sl ([.int x0, .int 1, .int 9])).length) Slot.unset).toArray = ls at hl ⊢
  have hl : lv_has ls 3 [(0, .int x0), (1, .int 1), (2, .int 9)] := hl
  refine lv_iload_n hx hb dX16_isIn_0 rfl (lv_at hl 0 rfl) ?_
  refine lv_iload_n hx hb dX16_isIn_1 rfl (lv_at hl 1 rfl) ?_
  refine lv_icmp_lt (tgt := 14) hx hb dX16_isIn_2 (by decide) (fun c1 => absurd c1 (fun z => absurd (show x0.toInt < (1 : Int) from Int32.lt_iff_toInt_lt.mp z) (by omega))) (fun c1 => ?_)
  refine lv_iload_n hx hb dX16_isIn_5 rfl (lv_at hl 0 rfl) ?_
  refine lv_iload_n hx hb dX16_isIn_6 rfl (lv_at hl 2 rfl) ?_
  refine lv_icmp_gt (tgt := 14) hx hb dX16_isIn_7 (by decide) (fun c2 => ?_) (fun c2 => absurd (show (9 : Int32) < x0 from Int32.lt_iff_toInt_lt.mpr (show (9 : Int) < x0.toInt by omega)) c2)
  refine lv_iconst (v := 0) hx hb dX16_isIn_14 (by decide) ?_
  have hP9 := hP.sub (ws' := []) [] rfl
  have hD9 := hD.sub (ws' := []) [] (by decide) rfl
  have hK9 := hK.sub (tys' := []) [] rfl
  refine W.widen (k := 0) (n := 0) (Nat.le_of_ble_eq_true rfl) (Nat.le_of_ble_eq_true rfl) ?_
  exact W.zret (v := 0) hx hb hr (by decide) (fun t ht hW => ⟨⟨_, (), rfl, rfl, by rw [ht]; exact hP9, va_K.moved hW.alike hK9, hD9⟩, hS.F ht⟩) hS.2.2 dX16_isIn_15
set_option maxHeartbeats 4000000 in
set_option maxRecDepth 100000 in
theorem kJ5_length_8abf5 (l : Launch) (dC : Nat → ClassId) (dI : Nat → Nat → Nat) (g : Nat → Nat) (sz : Nat) (h0 : Nat) (v0 : Value) (v1 : Value) (v2 : Value) : Met l yJ5_length_8abf5 wbJ5_length_8abf5 ({ frames := 0, cells := 0, slots := 0, locals := 0 }) (va_Pc [.ref h0] (fun U => U.heap.size = sz ∧ va_P (dC, dI) vwCl [(h0, .inr (1, [v0, v1, v2, .int 1]))] U.heap ∧ va_K (dC, dI) vwCl [] U ∧ va_D (fun _ => True) [(h0, .inr (1, [v0, v1, v2, .int 1]))] ∧ ns_F g (va_A [(h0, .inr (1, [v0, v1, v2, .int 1]))] sz) U U.heap)) (va_Qi (fun (r : Int32) (_ : Unit) => r = 1) (fun _ t => va_P (dC, dI) vwCl [(h0, .inr (1, [v0, v1, v2, .int 1]))] t.heap ∧ va_K (dC, dI) vwCl [] t ∧ va_D (va_A [(h0, .inr (1, [v0, v1, v2, .int 1]))] sz) [(h0, .inr (1, [v0, v1, v2, .int 1]))]) (va_A [(h0, .inr (1, [v0, v1, v2, .int 1]))] sz)) 0 0 (va_A [(h0, .inr (1, [v0, v1, v2, .int 1]))] sz) := by
  refine Met.ofW (cc := cJ5_length_8abf5) (maxL := 1) (ret := (some .int)) (by decide) rfl ?_
  intro p e s m args below meth c s₁ B hml hv
  obtain ⟨rfl, hsz, hP, hK, hD0, hF⟩ := hv
  have hx := B.exec
  have hb := B.bytes
  have hr := B.returns
  have hts := atoms_spec (ws := wbJ5_length_8abf5) B.pre
  have hta : ∀ w ∈ wsALL, w.before _ s = true := fun w h => hts w (List.mem_cons_of_mem _ h)
  have hown : s.vm.findClass RJ5 = some m.cls := findClass_of_methodNamed B.named
  have hlocks := B.notSynchronized
  subst hsz
  have hD := hD0.self (sz := s.heap.size)
  generalize hAe : va_A [(h0, .inr (1, [v0, v1, v2, .int 1]))] s.heap.size = A at hD hF ⊢
  have hA : ∀ q : Nat, s.heap.size ≤ q → A q := fun q h => by rw [← hAe]; exact Or.inr h
  have hS : va_S A s.heap s.heap [] := va_S.rf
  have hP : va_P (dC, dI) vwCl [(h0, .inr (1, [v0, v1, v2, .int 1]))] s.heap := hP
  have hl := lv_entry ([.ref h0]) (n := 1) (Nat.le_of_ble_eq_true rfl)
  rw [lg_entry_eq]
  generalize (lg_sl ([.ref h0]) ++ List.replicate (1 - (lg_sl ([.ref h0])).length) Slot.unset).toArray = ls at hl ⊢
  have hl : lv_has ls 1 [(0, .ref h0)] := hl
  refine lv_aload_n hx hb dJ5_length_8abf5_0 rfl (lv_at hl 0 rfl) ?_
  refine va_get (D := (dC, dI)) (ci := 1) (v := .int 1) (C := RJ4) (T := TJ4) (N := 4) hx hb hta naJ4 hown hK hP 0 rfl rfl 3 (by decide) (hta _ wm290) (fun _ h9 => h9) rfl dJ5_length_8abf5_1 ?_
  have hP9 := hP.sub (ws' := [(h0, .inr (1, [v0, v1, v2, .int 1]))]) [0] rfl
  have hD9 := hD.sub (ws' := [(h0, .inr (1, [v0, v1, v2, .int 1]))]) [0] (by decide) rfl
  have hK9 := hK.sub (tys' := []) [] rfl
  refine W.widen (k := 0) (n := 0) (Nat.le_of_ble_eq_true rfl) (Nat.le_of_ble_eq_true rfl) ?_
  exact W.iret (v := 1) hx hb hr (fun t ht hW => ⟨⟨_, (), rfl, rfl, by rw [ht]; exact hP9, va_K.moved hW.alike hK9, hD9⟩, hS.F ht⟩) hS.2.2 dJ5_length_8abf5_4
set_option maxHeartbeats 4000000 in
set_option maxRecDepth 100000 in
theorem kX16_isIn_7 (l : Launch) (dC : Nat → ClassId) (dI : Nat → Nat → Nat) (g : Nat → Nat) (sz : Nat)  : Met l yX16_isIn wbX16_isIn ({ frames := 0, cells := 0, slots := 0, locals := 0 }) (va_Pc [.int 4, .int 1, .int 9] (fun U => U.heap.size = sz ∧ va_P (dC, dI) vwCl [] U.heap ∧ va_K (dC, dI) vwCl [] U ∧ va_D (fun _ => True) [] ∧ ns_F g (va_A [] sz) U U.heap)) (va_Qi (fun (r : Int32) (_ : Unit) => r = 1) (fun _ t => va_P (dC, dI) vwCl [] t.heap ∧ va_K (dC, dI) vwCl [] t ∧ va_D (va_A [] sz) []) (va_A [] sz)) 0 0 (va_A [] sz) := by
  refine Met.ofW (cc := cX16_isIn) (maxL := 3) (ret := (some .boolean)) (by decide) rfl ?_
  intro p e s m args below meth c s₁ B hml hv
  obtain ⟨rfl, hsz, hP, hK, hD0, hF⟩ := hv
  have hx := B.exec
  have hb := B.bytes
  have hr := B.returns
  have hts := atoms_spec (ws := wbX16_isIn) B.pre
  have hta : ∀ w ∈ wsALL, w.before _ s = true := fun w h => hts w (List.mem_cons_of_mem _ h)
  have hown : s.vm.findClass RX16 = some m.cls := findClass_of_methodNamed B.named
  have hlocks := B.notSynchronized
  subst hsz
  have hD := hD0.self (sz := s.heap.size)
  generalize hAe : va_A [] s.heap.size = A at hD hF ⊢
  have hA : ∀ q : Nat, s.heap.size ≤ q → A q := fun q h => by rw [← hAe]; exact Or.inr h
  have hS : va_S A s.heap s.heap [] := va_S.rf
  have hP : va_P (dC, dI) vwCl [] s.heap := hP
  have hl := lv_entry ([.int 4, .int 1, .int 9]) (n := 3) (Nat.le_of_ble_eq_true rfl)
  rw [lg_entry_eq]
  generalize (lg_sl ([.int 4, .int 1, .int 9]) ++ List.replicate (3 - (lg_sl ([.int 4, .int 1, .int 9])).length) Slot.unset).toArray = ls at hl ⊢
  have hl : lv_has ls 3 [(0, .int 4), (1, .int 1), (2, .int 9)] := hl
  refine lv_iload_n hx hb dX16_isIn_0 rfl (lv_at hl 0 rfl) ?_
  refine lv_iload_n hx hb dX16_isIn_1 rfl (lv_at hl 1 rfl) ?_
  refine lv_icmp_lt (tgt := 14) hx hb dX16_isIn_2 (by decide) (fun c1 => absurd c1 (by decide)) (fun c1 => ?_)
  refine lv_iload_n hx hb dX16_isIn_5 rfl (lv_at hl 0 rfl) ?_
  refine lv_iload_n hx hb dX16_isIn_6 rfl (lv_at hl 2 rfl) ?_
  refine lv_icmp_gt (tgt := 14) hx hb dX16_isIn_7 (by decide) (fun c2 => absurd c2 (by decide)) (fun c2 => ?_)
  refine lv_iconst (v := 1) hx hb dX16_isIn_10 (by decide) ?_
  refine lv_goto (tgt := 15) hx hb dX16_isIn_11 (by decide) ?_
  have hP9 := hP.sub (ws' := []) [] rfl
  have hD9 := hD.sub (ws' := []) [] (by decide) rfl
  have hK9 := hK.sub (tys' := []) [] rfl
  refine W.widen (k := 0) (n := 0) (Nat.le_of_ble_eq_true rfl) (Nat.le_of_ble_eq_true rfl) ?_
  exact W.zret (v := 1) hx hb hr (by decide) (fun t ht hW => ⟨⟨_, (), rfl, rfl, by rw [ht]; exact hP9, va_K.moved hW.alike hK9, hD9⟩, hS.F ht⟩) hS.2.2 dX16_isIn_15
set_option maxHeartbeats 4000000 in
set_option maxRecDepth 100000 in
theorem kX16_add_12 (l : Launch) (dC : Nat → ClassId) (dI : Nat → Nat → Nat) (g : Nat → Nat) (sz : Nat)  : Met l yX16_add wbX16_add ({ frames := 0, cells := 0, slots := 0, locals := 0 }) (va_Pc [.long 7646443195607226570, .long 0] (fun U => U.heap.size = sz ∧ va_P (dC, dI) vwCl [] U.heap ∧ va_K (dC, dI) vwCl [] U ∧ va_D (fun _ => True) [] ∧ ns_F g (va_A [] sz) U U.heap)) (va_Ql (fun (r : Int64) (_ : Unit) => r = (-2767933894400147338)) (fun _ t => va_P (dC, dI) vwCl [] t.heap ∧ va_K (dC, dI) vwCl [] t ∧ va_D (va_A [] sz) []) (va_A [] sz)) 0 0 (va_A [] sz) := by
  refine Met.ofW (cc := cX16_add) (maxL := 4) (ret := (some .long)) (by decide) rfl ?_
  intro p e s m args below meth c s₁ B hml hv
  obtain ⟨rfl, hsz, hP, hK, hD0, hF⟩ := hv
  have hx := B.exec
  have hb := B.bytes
  have hr := B.returns
  have hts := atoms_spec (ws := wbX16_add) B.pre
  have hta : ∀ w ∈ wsALL, w.before _ s = true := fun w h => hts w (List.mem_cons_of_mem _ h)
  have hown : s.vm.findClass RX16 = some m.cls := findClass_of_methodNamed B.named
  have hlocks := B.notSynchronized
  subst hsz
  have hD := hD0.self (sz := s.heap.size)
  generalize hAe : va_A [] s.heap.size = A at hD hF ⊢
  have hA : ∀ q : Nat, s.heap.size ≤ q → A q := fun q h => by rw [← hAe]; exact Or.inr h
  have hS : va_S A s.heap s.heap [] := va_S.rf
  have hP : va_P (dC, dI) vwCl [] s.heap := hP
  have hl := lv_entry ([.long 7646443195607226570, .long 0]) (n := 4) (Nat.le_of_ble_eq_true rfl)
  rw [lg_entry_eq]
  generalize (lg_sl ([.long 7646443195607226570, .long 0]) ++ List.replicate (4 - (lg_sl ([.long 7646443195607226570, .long 0])).length) Slot.unset).toArray = ls at hl ⊢
  have hl : lv_has ls 4 [(0, .long 7646443195607226570), (2, .long 0)] := hl
  refine lv_lload_n hx hb dX16_add_0 rfl (lv_at hl 0 rfl) ?_
  refine lv_ldc2 (v := 31) hx hb hown (hta _ wm1092) dX16_add_1 ?_
  refine lv_lmul hx hb dX16_add_4 ?_
  refine lv_topl (fun y1 ey1 => ?_)
  obtain rfl : y1 = (-2767933894400147338) := ey1.trans (by decide)
  refine lv_lload_n hx hb dX16_add_5 rfl (lv_at hl 1 rfl) ?_
  refine lv_ladd hx hb dX16_add_6 ?_
  refine lv_topl (fun y2 ey2 => ?_)
  obtain rfl : y2 = (-2767933894400147338) := ey2.trans (by decide)
  have hP9 := hP.sub (ws' := []) [] rfl
  have hD9 := hD.sub (ws' := []) [] (by decide) rfl
  have hK9 := hK.sub (tys' := []) [] rfl
  refine W.widen (k := 0) (n := 0) (Nat.le_of_ble_eq_true rfl) (Nat.le_of_ble_eq_true rfl) ?_
  exact W.lret (v := (-2767933894400147338)) hx hb hr (fun t ht hW => ⟨⟨_, (), rfl, rfl, by rw [ht]; exact hP9, va_K.moved hW.alike hK9, hD9⟩, hS.F ht⟩) hS.2.2 dX16_add_7
set_option maxHeartbeats 4000000 in
set_option maxRecDepth 100000 in
theorem kX9_lengthAfter_15 (l : Launch) (dC : Nat → ClassId) (dI : Nat → Nat → Nat) (g : Nat → Nat) (sz : Nat) (x0 : Int32) (x1 : Int32) (ex0 : (0 : Int) ≤ x0.toInt ∧ x0.toInt ≤ (4 : Int)) (ex1 : (-1 : Int) ≤ x1.toInt ∧ x1.toInt ≤ (-1 : Int)) : Met l yX9_lengthAfter wbX9_lengthAfter ({ frames := 0, cells := 0, slots := 0, locals := 0 }) (va_Pc [.int x0, .int x1] (fun U => U.heap.size = sz ∧ va_P (dC, dI) vwCl [] U.heap ∧ va_K (dC, dI) vwCl [] U ∧ va_D (fun _ => True) [] ∧ ns_F g (va_A [] sz) U U.heap)) (va_Qi (fun (r : Int32) (_ : Unit) => r = x0) (fun _ t => va_P (dC, dI) vwCl [] t.heap ∧ va_K (dC, dI) vwCl [] t ∧ va_D (va_A [] sz) []) (va_A [] sz)) 0 0 (va_A [] sz) := by
  refine Met.ofW (cc := cX9_lengthAfter) (maxL := 2) (ret := (some .int)) (by decide) rfl ?_
  intro p e s m args below meth c s₁ B hml hv
  obtain ⟨rfl, hsz, hP, hK, hD0, hF⟩ := hv
  have hx := B.exec
  have hb := B.bytes
  have hr := B.returns
  have hts := atoms_spec (ws := wbX9_lengthAfter) B.pre
  have hta : ∀ w ∈ wsALL, w.before _ s = true := fun w h => hts w (List.mem_cons_of_mem _ h)
  have hown : s.vm.findClass RX9 = some m.cls := findClass_of_methodNamed B.named
  have hlocks := B.notSynchronized
  subst hsz
  have hD := hD0.self (sz := s.heap.size)
  generalize hAe : va_A [] s.heap.size = A at hD hF ⊢
  have hA : ∀ q : Nat, s.heap.size ≤ q → A q := fun q h => by rw [← hAe]; exact Or.inr h
  have hS : va_S A s.heap s.heap [] := va_S.rf
  have hP : va_P (dC, dI) vwCl [] s.heap := hP
  have hl := lv_entry ([.int x0, .int x1]) (n := 2) (Nat.le_of_ble_eq_true rfl)
  rw [lg_entry_eq]
  generalize (lg_sl ([.int x0, .int x1]) ++ List.replicate (2 - (lg_sl ([.int x0, .int x1])).length) Slot.unset).toArray = ls at hl ⊢
  have hl : lv_has ls 2 [(0, .int x0), (1, .int x1)] := hl
  refine lv_iload_n hx hb dX9_lengthAfter_0 rfl (lv_at hl 1 rfl) ?_
  refine lv_iconst (v := (-1)) hx hb dX9_lengthAfter_1 (by decide) ?_
  refine lv_icmp_ne (tgt := 7) hx hb dX9_lengthAfter_2 (by decide) (fun c1 => absurd (show x1 = (-1 : Int32) from Int32.toInt_inj.mp (show x1.toInt = (-1 : Int) by omega)) c1) (fun c1 => ?_)
  refine lv_iload_n hx hb dX9_lengthAfter_5 rfl (lv_at hl 0 rfl) ?_
  have hP9 := hP.sub (ws' := []) [] rfl
  have hD9 := hD.sub (ws' := []) [] (by decide) rfl
  have hK9 := hK.sub (tys' := []) [] rfl
  refine W.widen (k := 0) (n := 0) (Nat.le_of_ble_eq_true rfl) (Nat.le_of_ble_eq_true rfl) ?_
  exact W.iret (v := x0) hx hb hr (fun t ht hW => ⟨⟨_, (), rfl, rfl, by rw [ht]; exact hP9, va_K.moved hW.alike hK9, hD9⟩, hS.F ht⟩) hS.2.2 dX9_lengthAfter_6
set_option maxHeartbeats 4000000 in
set_option maxRecDepth 100000 in
theorem kX16_add_8 (l : Launch) (dC : Nat → ClassId) (dI : Nat → Nat → Nat) (g : Nat → Nat) (sz : Nat)  : Met l yX16_add wbX16_add ({ frames := 0, cells := 0, slots := 0, locals := 0 }) (va_Pc [.long 227997661132137, .long 0] (fun U => U.heap.size = sz ∧ va_P (dC, dI) vwCl [] U.heap ∧ va_K (dC, dI) vwCl [] U ∧ va_D (fun _ => True) [] ∧ ns_F g (va_A [] sz) U U.heap)) (va_Ql (fun (r : Int64) (_ : Unit) => r = 7067927495096247) (fun _ t => va_P (dC, dI) vwCl [] t.heap ∧ va_K (dC, dI) vwCl [] t ∧ va_D (va_A [] sz) []) (va_A [] sz)) 0 0 (va_A [] sz) := by
  refine Met.ofW (cc := cX16_add) (maxL := 4) (ret := (some .long)) (by decide) rfl ?_
  intro p e s m args below meth c s₁ B hml hv
  obtain ⟨rfl, hsz, hP, hK, hD0, hF⟩ := hv
  have hx := B.exec
  have hb := B.bytes
  have hr := B.returns
  have hts := atoms_spec (ws := wbX16_add) B.pre
  have hta : ∀ w ∈ wsALL, w.before _ s = true := fun w h => hts w (List.mem_cons_of_mem _ h)
  have hown : s.vm.findClass RX16 = some m.cls := findClass_of_methodNamed B.named
  have hlocks := B.notSynchronized
  subst hsz
  have hD := hD0.self (sz := s.heap.size)
  generalize hAe : va_A [] s.heap.size = A at hD hF ⊢
  have hA : ∀ q : Nat, s.heap.size ≤ q → A q := fun q h => by rw [← hAe]; exact Or.inr h
  have hS : va_S A s.heap s.heap [] := va_S.rf
  have hP : va_P (dC, dI) vwCl [] s.heap := hP
  have hl := lv_entry ([.long 227997661132137, .long 0]) (n := 4) (Nat.le_of_ble_eq_true rfl)
  rw [lg_entry_eq]
  generalize (lg_sl ([.long 227997661132137, .long 0]) ++ List.replicate (4 - (lg_sl ([.long 227997661132137, .long 0])).length) Slot.unset).toArray = ls at hl ⊢
  have hl : lv_has ls 4 [(0, .long 227997661132137), (2, .long 0)] := hl
  refine lv_lload_n hx hb dX16_add_0 rfl (lv_at hl 0 rfl) ?_
  refine lv_ldc2 (v := 31) hx hb hown (hta _ wm1092) dX16_add_1 ?_
  refine lv_lmul hx hb dX16_add_4 ?_
  refine lv_topl (fun y1 ey1 => ?_)
  obtain rfl : y1 = 7067927495096247 := ey1.trans (by decide)
  refine lv_lload_n hx hb dX16_add_5 rfl (lv_at hl 1 rfl) ?_
  refine lv_ladd hx hb dX16_add_6 ?_
  refine lv_topl (fun y2 ey2 => ?_)
  obtain rfl : y2 = 7067927495096247 := ey2.trans (by decide)
  have hP9 := hP.sub (ws' := []) [] rfl
  have hD9 := hD.sub (ws' := []) [] (by decide) rfl
  have hK9 := hK.sub (tys' := []) [] rfl
  refine W.widen (k := 0) (n := 0) (Nat.le_of_ble_eq_true rfl) (Nat.le_of_ble_eq_true rfl) ?_
  exact W.lret (v := 7067927495096247) hx hb hr (fun t ht hW => ⟨⟨_, (), rfl, rfl, by rw [ht]; exact hP9, va_K.moved hW.alike hK9, hD9⟩, hS.F ht⟩) hS.2.2 dX16_add_7
set_option maxHeartbeats 4000000 in
set_option maxRecDepth 100000 in
theorem kX16_isIn_3 (l : Launch) (dC : Nat → ClassId) (dI : Nat → Nat → Nat) (g : Nat → Nat) (sz : Nat) (x0 : Int32) (ex0 : (-2147483648 : Int) ≤ x0.toInt ∧ x0.toInt ≤ (0 : Int)) : Met l yX16_isIn wbX16_isIn ({ frames := 0, cells := 0, slots := 0, locals := 0 }) (va_Pc [.int x0, .int 1, .int 9] (fun U => U.heap.size = sz ∧ va_P (dC, dI) vwCl [] U.heap ∧ va_K (dC, dI) vwCl [] U ∧ va_D (fun _ => True) [] ∧ ns_F g (va_A [] sz) U U.heap)) (va_Qi (fun (r : Int32) (_ : Unit) => r = 0) (fun _ t => va_P (dC, dI) vwCl [] t.heap ∧ va_K (dC, dI) vwCl [] t ∧ va_D (va_A [] sz) []) (va_A [] sz)) 0 0 (va_A [] sz) := by
  refine Met.ofW (cc := cX16_isIn) (maxL := 3) (ret := (some .boolean)) (by decide) rfl ?_
  intro p e s m args below meth c s₁ B hml hv
  obtain ⟨rfl, hsz, hP, hK, hD0, hF⟩ := hv
  have hx := B.exec
  have hb := B.bytes
  have hr := B.returns
  have hts := atoms_spec (ws := wbX16_isIn) B.pre
  have hta : ∀ w ∈ wsALL, w.before _ s = true := fun w h => hts w (List.mem_cons_of_mem _ h)
  have hown : s.vm.findClass RX16 = some m.cls := findClass_of_methodNamed B.named
  have hlocks := B.notSynchronized
  subst hsz
  have hD := hD0.self (sz := s.heap.size)
  generalize hAe : va_A [] s.heap.size = A at hD hF ⊢
  have hA : ∀ q : Nat, s.heap.size ≤ q → A q := fun q h => by rw [← hAe]; exact Or.inr h
  have hS : va_S A s.heap s.heap [] := va_S.rf
  have hP : va_P (dC, dI) vwCl [] s.heap := hP
  have hl := lv_entry ([.int x0, .int 1, .int 9]) (n := 3) (Nat.le_of_ble_eq_true rfl)
  rw [lg_entry_eq]
  generalize (lg_sl ([.int x0, .int 1, .int 9]) ++ List.replicate (3 - (lg_sl ([.int x0, .int 1, .int 9])).length) Slot.unset).toArray = ls at hl ⊢
  have hl : lv_has ls 3 [(0, .int x0), (1, .int 1), (2, .int 9)] := hl
  refine lv_iload_n hx hb dX16_isIn_0 rfl (lv_at hl 0 rfl) ?_
  refine lv_iload_n hx hb dX16_isIn_1 rfl (lv_at hl 1 rfl) ?_
  refine lv_icmp_lt (tgt := 14) hx hb dX16_isIn_2 (by decide) (fun c1 => ?_) (fun c1 => absurd (show x0 < (1 : Int32) from Int32.lt_iff_toInt_lt.mpr (show x0.toInt < (1 : Int) by omega)) c1)
  refine lv_iconst (v := 0) hx hb dX16_isIn_14 (by decide) ?_
  have hP9 := hP.sub (ws' := []) [] rfl
  have hD9 := hD.sub (ws' := []) [] (by decide) rfl
  have hK9 := hK.sub (tys' := []) [] rfl
  refine W.widen (k := 0) (n := 0) (Nat.le_of_ble_eq_true rfl) (Nat.le_of_ble_eq_true rfl) ?_
  exact W.zret (v := 0) hx hb hr (by decide) (fun t ht hW => ⟨⟨_, (), rfl, rfl, by rw [ht]; exact hP9, va_K.moved hW.alike hK9, hD9⟩, hS.F ht⟩) hS.2.2 dX16_isIn_15
set_option maxHeartbeats 4000000 in
set_option maxRecDepth 100000 in
theorem kJ7_checkLength_df160_7 (l : Launch) (dC : Nat → ClassId) (dI : Nat → Nat → Nat) (g : Nat → Nat) (sz : Nat)  : Met l yJ7_checkLength_df160 wbJ7_checkLength_df160 ({ frames := 0, cells := 0, slots := 0, locals := 0 }) (va_Pc [.int 0, .int 7] (fun U => U.heap.size = sz ∧ va_P (dC, dI) vwCl [] U.heap ∧ va_K (dC, dI) vwCl [] U ∧ va_D (fun _ => True) [] ∧ ns_F g (va_A [] sz) U U.heap)) (va_Qv (fun _ : Unit => True) (fun _ t => va_P (dC, dI) vwCl [] t.heap ∧ va_K (dC, dI) vwCl [] t ∧ va_D (va_A [] sz) []) (va_A [] sz)) 0 0 (va_A [] sz) := by
  refine Met.ofW (cc := cJ7_checkLength_df160) (maxL := 2) (ret := none) (by decide) rfl ?_
  intro p e s m args below meth c s₁ B hml hv
  obtain ⟨rfl, hsz, hP, hK, hD0, hF⟩ := hv
  have hx := B.exec
  have hb := B.bytes
  have hr := B.returns
  have hts := atoms_spec (ws := wbJ7_checkLength_df160) B.pre
  have hta : ∀ w ∈ wsALL, w.before _ s = true := fun w h => hts w (List.mem_cons_of_mem _ h)
  have hown : s.vm.findClass RJ7 = some m.cls := findClass_of_methodNamed B.named
  have hlocks := B.notSynchronized
  subst hsz
  have hD := hD0.self (sz := s.heap.size)
  generalize hAe : va_A [] s.heap.size = A at hD hF ⊢
  have hA : ∀ q : Nat, s.heap.size ≤ q → A q := fun q h => by rw [← hAe]; exact Or.inr h
  have hS : va_S A s.heap s.heap [] := va_S.rf
  have hP : va_P (dC, dI) vwCl [] s.heap := hP
  have hl := lv_entry ([.int 0, .int 7]) (n := 2) (Nat.le_of_ble_eq_true rfl)
  rw [lg_entry_eq]
  generalize (lg_sl ([.int 0, .int 7]) ++ List.replicate (2 - (lg_sl ([.int 0, .int 7])).length) Slot.unset).toArray = ls at hl ⊢
  have hl : lv_has ls 2 [(0, .int 0), (1, .int 7)] := hl
  refine lv_iload_n hx hb dJ7_checkLength_df160_0 rfl (lv_at hl 1 rfl) ?_
  refine lv_iload_n hx hb dJ7_checkLength_df160_1 rfl (lv_at hl 0 rfl) ?_
  refine lv_icmp_ge (tgt := 37) hx hb dJ7_checkLength_df160_2 (by decide) (fun c1 => ?_) (fun c1 => absurd (by decide) c1)
  have hP9 := hP.sub (ws' := []) [] rfl
  have hD9 := hD.sub (ws' := []) [] (by decide) rfl
  have hK9 := hK.sub (tys' := []) [] rfl
  refine W.widen (k := 0) (n := 0) (Nat.le_of_ble_eq_true rfl) (Nat.le_of_ble_eq_true rfl) ?_
  exact W.vret hx hb hr (fun t ht hW => ⟨⟨(), rfl, trivial, by rw [ht]; exact hP9, va_K.moved hW.alike hK9, hD9⟩, hS.F ht⟩) hS.2.2 dJ7_checkLength_df160_37

set_option maxHeartbeats 4000000 in
set_option maxRecDepth 100000 in
theorem ns_say_6_2 {p : Program} {l : Launch} {e : Env} {s : State} {m : MethodId} {args : Array Value} {below : List Frame} {meth : Method} {c : Code} {dC : Nat → ClassId} {dI : Nat → Nat → Nat} {g : Nat → Nat} {A : Nat → Prop} {Q : State → Prop} {h0 : Nat} {x0 : Int32} {x1 : Int32} {x2 : Int32} {x3 : Int32} {x4 : Int32} {x5 : Int32} {v1 : Value} {v2 : Value} {v3 : Value} {v4 : Value} {v5 : Value} {v6 : Value} {v7 : Value} {q1 : Nat} {cyq1 : ClassId} {t9 b9 : Nat} {cb9 : ClassId} {fb9 : Nat → Int32} (hb9 : sb_Fit fb9) {H : Heap} {locs : List Loc} {ls : Array Slot} {E9 : Int32} (hE : E9 = 2) (ex0 : (-1 : Int) ≤ x0.toInt ∧ x0.toInt ≤ (21 : Int)) (ex1 : (-1 : Int) ≤ x1.toInt ∧ x1.toInt ≤ (21 : Int)) (ex2 : (-1 : Int) ≤ x2.toInt ∧ x2.toInt ≤ (21 : Int)) (ex3 : (-1 : Int) ≤ x3.toInt ∧ x3.toInt ≤ (21 : Int)) (ex4 : (-1 : Int) ≤ x4.toInt ∧ x4.toInt ≤ (21 : Int)) (ex5 : (-1 : Int) ≤ x5.toInt ∧ x5.toInt ≤ (21 : Int)) (hx : p.tables.exec = Jvm.exec) (hb : c.code = cX16_say) (hml : c.maxLocals = 14) (hown : s.vm.findClass RX16 = some m.cls) (hts : ∀ w ∈ wbX16_say, w.before args s = true) (hA : ∀ q : Nat, s.heap.size ≤ q → A q) (hF : ns_F g A s s.heap) (hK : va_K (dC, dI) vwCl [(cyq1, .int), (cb9, .byte)] s) (hP : va_P (dC, dI) vwCl [(h0, .inr (23, [.int 0, v1, v2, v3, .ref (g 34), v4, v5, v6, v7])), (q1, .inl (cyq1, 6, .inl (upd (upd (upd (upd (upd (upd (fun _ => 0) 0 x0) 1 x1) 2 x2) 3 x3) 4 x4) 5 x5))), (t9, .inr (0, [.ref b9, .int 0, .int 0, .int 0])), (b9, .inl (cb9, 2, .inl fb9))] H) (hD : va_D A [(h0, .inr (23, [.int 0, v1, v2, v3, .ref (g 34), v4, v5, v6, v7])), (q1, .inl (cyq1, 6, .inl (upd (upd (upd (upd (upd (upd (fun _ => 0) 0 x0) 1 x1) 2 x2) 3 x3) 4 x4) 5 x5))), (t9, .inr (0, [.ref b9, .int 0, .int 0, .int 0])), (b9, .inl (cb9, 2, .inl fb9))]) (hS : va_S A s.heap H locs) (hl : lv_has ls 14 [(12, .int 6), (11, .int 6), (10, .ref q1), (9, .ref t9), (0, .ref h0)]) (k09 : ∀ (H : Heap) (locs : List Loc) (ls : Array Slot), E9 = 0 → va_K (dC, dI) vwCl [(cyq1, .int)] s → va_P (dC, dI) vwCl [(h0, .inr (23, [.int 0, v1, v2, v3, .ref (g 34), v4, v5, v6, v7])), (q1, .inl (cyq1, 6, .inl (upd (upd (upd (upd (upd (upd (fun _ => 0) 0 x0) 1 x1) 2 x2) 3 x3) 4 x4) 5 x5)))] H → va_D A [(h0, .inr (23, [.int 0, v1, v2, v3, .ref (g 34), v4, v5, v6, v7])), (q1, .inl (cyq1, 6, .inl (upd (upd (upd (upd (upd (upd (fun _ => 0) 0 x0) 1 x1) 2 x2) 3 x3) 4 x4) 5 x5)))] → va_S A s.heap H locs → lv_has ls 14 [(9, .ref (g 34)), (0, .ref h0)] → W p l e ({ frames := 7, cells := 37, slots := 246, locals := 172 } : Room) s m args below meth c H locs 37 246 Q (F0 m 173 ls [])) (k19 : ∀ (t9 b9 : Nat) (cb9 : ClassId) (fb9 : Nat → Int32) (hb9 : sb_Fit fb9), ∀ (H : Heap) (locs : List Loc) (ls : Array Slot), E9 = 1 → va_K (dC, dI) vwCl [(cyq1, .int), (cb9, .byte)] s → va_P (dC, dI) vwCl [(h0, .inr (23, [.int 0, v1, v2, v3, .ref (g 34), v4, v5, v6, v7])), (q1, .inl (cyq1, 6, .inl (upd (upd (upd (upd (upd (upd (fun _ => 0) 0 x0) 1 x1) 2 x2) 3 x3) 4 x4) 5 x5))), (t9, .inr (0, [.ref b9, .int 0, .int 0, .int 0])), (b9, .inl (cb9, 1, .inl fb9))] H → va_D A [(h0, .inr (23, [.int 0, v1, v2, v3, .ref (g 34), v4, v5, v6, v7])), (q1, .inl (cyq1, 6, .inl (upd (upd (upd (upd (upd (upd (fun _ => 0) 0 x0) 1 x1) 2 x2) 3 x3) 4 x4) 5 x5))), (t9, .inr (0, [.ref b9, .int 0, .int 0, .int 0])), (b9, .inl (cb9, 1, .inl fb9))] → va_S A s.heap H locs → lv_has ls 14 [(9, .ref t9), (0, .ref h0)] → W p l e ({ frames := 7, cells := 37, slots := 246, locals := 172 } : Room) s m args below meth c H locs 37 246 Q (F0 m 173 ls [])) (k29 : ∀ (t9 b9 : Nat) (cb9 : ClassId) (fb9 : Nat → Int32) (hb9 : sb_Fit fb9), ∀ (H : Heap) (locs : List Loc) (ls : Array Slot), E9 = 2 → va_K (dC, dI) vwCl [(cyq1, .int), (cb9, .byte)] s → va_P (dC, dI) vwCl [(h0, .inr (23, [.int 0, v1, v2, v3, .ref (g 34), v4, v5, v6, v7])), (q1, .inl (cyq1, 6, .inl (upd (upd (upd (upd (upd (upd (fun _ => 0) 0 x0) 1 x1) 2 x2) 3 x3) 4 x4) 5 x5))), (t9, .inr (0, [.ref b9, .int 0, .int 0, .int 0])), (b9, .inl (cb9, 2, .inl fb9))] H → va_D A [(h0, .inr (23, [.int 0, v1, v2, v3, .ref (g 34), v4, v5, v6, v7])), (q1, .inl (cyq1, 6, .inl (upd (upd (upd (upd (upd (upd (fun _ => 0) 0 x0) 1 x1) 2 x2) 3 x3) 4 x4) 5 x5))), (t9, .inr (0, [.ref b9, .int 0, .int 0, .int 0])), (b9, .inl (cb9, 2, .inl fb9))] → va_S A s.heap H locs → lv_has ls 14 [(9, .ref t9), (0, .ref h0)] → W p l e ({ frames := 7, cells := 37, slots := 246, locals := 172 } : Room) s m args below meth c H locs 37 246 Q (F0 m 173 ls [])) (k39 : ∀ (t9 b9 : Nat) (cb9 : ClassId) (fb9 : Nat → Int32) (hb9 : sb_Fit fb9), ∀ (H : Heap) (locs : List Loc) (ls : Array Slot), E9 = 3 → va_K (dC, dI) vwCl [(cyq1, .int), (cb9, .byte)] s → va_P (dC, dI) vwCl [(h0, .inr (23, [.int 0, v1, v2, v3, .ref (g 34), v4, v5, v6, v7])), (q1, .inl (cyq1, 6, .inl (upd (upd (upd (upd (upd (upd (fun _ => 0) 0 x0) 1 x1) 2 x2) 3 x3) 4 x4) 5 x5))), (t9, .inr (0, [.ref b9, .int 0, .int 0, .int 0])), (b9, .inl (cb9, 3, .inl fb9))] H → va_D A [(h0, .inr (23, [.int 0, v1, v2, v3, .ref (g 34), v4, v5, v6, v7])), (q1, .inl (cyq1, 6, .inl (upd (upd (upd (upd (upd (upd (fun _ => 0) 0 x0) 1 x1) 2 x2) 3 x3) 4 x4) 5 x5))), (t9, .inr (0, [.ref b9, .int 0, .int 0, .int 0])), (b9, .inl (cb9, 3, .inl fb9))] → va_S A s.heap H locs → lv_has ls 14 [(9, .ref t9), (0, .ref h0)] → W p l e ({ frames := 7, cells := 37, slots := 246, locals := 172 } : Room) s m args below meth c H locs 37 246 Q (F0 m 173 ls [])) (k49 : ∀ (t9 b9 : Nat) (cb9 : ClassId) (fb9 : Nat → Int32) (hb9 : sb_Fit fb9), ∀ (H : Heap) (locs : List Loc) (ls : Array Slot), E9 = 4 → va_K (dC, dI) vwCl [(cyq1, .int), (cb9, .byte)] s → va_P (dC, dI) vwCl [(h0, .inr (23, [.int 0, v1, v2, v3, .ref (g 34), v4, v5, v6, v7])), (q1, .inl (cyq1, 6, .inl (upd (upd (upd (upd (upd (upd (fun _ => 0) 0 x0) 1 x1) 2 x2) 3 x3) 4 x4) 5 x5))), (t9, .inr (0, [.ref b9, .int 0, .int 0, .int 0])), (b9, .inl (cb9, 4, .inl fb9))] H → va_D A [(h0, .inr (23, [.int 0, v1, v2, v3, .ref (g 34), v4, v5, v6, v7])), (q1, .inl (cyq1, 6, .inl (upd (upd (upd (upd (upd (upd (fun _ => 0) 0 x0) 1 x1) 2 x2) 3 x3) 4 x4) 5 x5))), (t9, .inr (0, [.ref b9, .int 0, .int 0, .int 0])), (b9, .inl (cb9, 4, .inl fb9))] → va_S A s.heap H locs → lv_has ls 14 [(9, .ref t9), (0, .ref h0)] → W p l e ({ frames := 7, cells := 37, slots := 246, locals := 172 } : Room) s m args below meth c H locs 37 246 Q (F0 m 173 ls [])) (k59 : ∀ (t9 b9 : Nat) (cb9 : ClassId) (fb9 : Nat → Int32) (hb9 : sb_Fit fb9), ∀ (H : Heap) (locs : List Loc) (ls : Array Slot), E9 = 5 → va_K (dC, dI) vwCl [(cyq1, .int), (cb9, .byte)] s → va_P (dC, dI) vwCl [(h0, .inr (23, [.int 0, v1, v2, v3, .ref (g 34), v4, v5, v6, v7])), (q1, .inl (cyq1, 6, .inl (upd (upd (upd (upd (upd (upd (fun _ => 0) 0 x0) 1 x1) 2 x2) 3 x3) 4 x4) 5 x5))), (t9, .inr (0, [.ref b9, .int 0, .int 0, .int 0])), (b9, .inl (cb9, 5, .inl fb9))] H → va_D A [(h0, .inr (23, [.int 0, v1, v2, v3, .ref (g 34), v4, v5, v6, v7])), (q1, .inl (cyq1, 6, .inl (upd (upd (upd (upd (upd (upd (fun _ => 0) 0 x0) 1 x1) 2 x2) 3 x3) 4 x4) 5 x5))), (t9, .inr (0, [.ref b9, .int 0, .int 0, .int 0])), (b9, .inl (cb9, 5, .inl fb9))] → va_S A s.heap H locs → lv_has ls 14 [(9, .ref t9), (0, .ref h0)] → W p l e ({ frames := 7, cells := 37, slots := 246, locals := 172 } : Room) s m args below meth c H locs 37 246 Q (F0 m 173 ls [])) (k69 : ∀ (t9 b9 : Nat) (cb9 : ClassId) (fb9 : Nat → Int32) (hb9 : sb_Fit fb9), ∀ (H : Heap) (locs : List Loc) (ls : Array Slot), E9 = 6 → va_K (dC, dI) vwCl [(cyq1, .int), (cb9, .byte)] s → va_P (dC, dI) vwCl [(h0, .inr (23, [.int 0, v1, v2, v3, .ref (g 34), v4, v5, v6, v7])), (q1, .inl (cyq1, 6, .inl (upd (upd (upd (upd (upd (upd (fun _ => 0) 0 x0) 1 x1) 2 x2) 3 x3) 4 x4) 5 x5))), (t9, .inr (0, [.ref b9, .int 0, .int 0, .int 0])), (b9, .inl (cb9, 6, .inl fb9))] H → va_D A [(h0, .inr (23, [.int 0, v1, v2, v3, .ref (g 34), v4, v5, v6, v7])), (q1, .inl (cyq1, 6, .inl (upd (upd (upd (upd (upd (upd (fun _ => 0) 0 x0) 1 x1) 2 x2) 3 x3) 4 x4) 5 x5))), (t9, .inr (0, [.ref b9, .int 0, .int 0, .int 0])), (b9, .inl (cb9, 6, .inl fb9))] → va_S A s.heap H locs → lv_has ls 14 [(9, .ref t9), (0, .ref h0)] → W p l e ({ frames := 7, cells := 37, slots := 246, locals := 172 } : Room) s m args below meth c H locs 37 246 Q (F0 m 173 ls [])) : W p l e ({ frames := 7, cells := 37, slots := 246, locals := 172 } : Room) s m args below meth c H locs 37 246 Q (F0 m 119 ls []) := by
  have hta : ∀ w ∈ wsALL, w.before args s = true := fun w h => hts w (List.mem_cons_of_mem _ h)
  refine lv_iload hx hb dX16_say_119 (lv_at hl 0 rfl) ?_
  refine lv_iload hx hb dX16_say_121 (lv_at hl 1 rfl) ?_
  refine lv_icmp_ge (tgt := 173) hx hb dX16_say_123 (by decide) (fun c1001 => ?_) (fun c1001 => absurd (by decide) c1001)
  have hP := hP.sub (ws' := [(h0, .inr (23, [.int 0, v1, v2, v3, .ref (g 34), v4, v5, v6, v7])), (q1, .inl (cyq1, 6, .inl (upd (upd (upd (upd (upd (upd (fun _ => 0) 0 x0) 1 x1) 2 x2) 3 x3) 4 x4) 5 x5))), (t9, .inr (0, [.ref b9, .int 0, .int 0, .int 0])), (b9, .inl (cb9, 2, .inl fb9))]) [0, 1, 2, 3] rfl
  have hD := hD.sub (ws' := [(h0, .inr (23, [.int 0, v1, v2, v3, .ref (g 34), v4, v5, v6, v7])), (q1, .inl (cyq1, 6, .inl (upd (upd (upd (upd (upd (upd (fun _ => 0) 0 x0) 1 x1) 2 x2) 3 x3) 4 x4) 5 x5))), (t9, .inr (0, [.ref b9, .int 0, .int 0, .int 0])), (b9, .inl (cb9, 2, .inl fb9))]) [0, 1, 2, 3] (by decide) rfl
  have hK := hK.sub (tys' := [(cyq1, .int), (cb9, .byte)]) [0, 1] rfl
  have hl := lv_sub hl (l' := [(9, .ref t9), (0, .ref h0)]) [3, 4] rfl
  refine W.widen (k := 37) (n := 246) (Nat.le_of_ble_eq_true rfl) (Nat.le_of_ble_eq_true rfl) ?_
  exact k29 _ _ _ _ hb9 _ _ _ hE hK hP hD hS hl
set_option maxHeartbeats 4000000 in
set_option maxRecDepth 100000 in
theorem kX4_add_9 (l : Launch) (dC : Nat → ClassId) (dI : Nat → Nat → Nat) (g : Nat → Nat) (sz : Nat) (h0 : Nat) (x0 : Int32) (h1 : Nat) (cc0 : ClassId) (f0 : Nat → Int32) (ex0 : (97 : Int) ≤ x0.toInt ∧ x0.toInt ≤ (122 : Int)) : Met l yX4_add wbX4_add ({ frames := 0, cells := 0, slots := 0, locals := 0 }) (va_Pc [.ref h0, .int x0] (fun U => U.heap.size = sz ∧ va_P (dC, dI) vwCl [(h0, .inr (11, [.ref h1, .int 3])), (h1, .inl (cc0, 4960, .inl f0))] U.heap ∧ va_K (dC, dI) vwCl [(cc0, .int)] U ∧ va_D (fun _ => True) [(h0, .inr (11, [.ref h1, .int 3])), (h1, .inl (cc0, 4960, .inl f0))] ∧ ns_F g (va_A [(h0, .inr (11, [.ref h1, .int 3])), (h1, .inl (cc0, 4960, .inl f0))] sz) U U.heap)) (va_Qv (fun _ : Unit => True) (fun _ t => va_P (dC, dI) vwCl [(h0, .inr (11, [.ref h1, .int 4])), (h1, .inl (cc0, 4960, .inl (upd (f0) 3 x0)))] t.heap ∧ va_K (dC, dI) vwCl [(cc0, .int)] t ∧ va_D (va_A [(h0, .inr (11, [.ref h1, .int 3])), (h1, .inl (cc0, 4960, .inl f0))] sz) [(h0, .inr (11, [.ref h1, .int 4])), (h1, .inl (cc0, 4960, .inl (upd (f0) 3 x0)))]) (va_A [(h0, .inr (11, [.ref h1, .int 3])), (h1, .inl (cc0, 4960, .inl f0))] sz)) 0 0 (va_A [(h0, .inr (11, [.ref h1, .int 3])), (h1, .inl (cc0, 4960, .inl f0))] sz) := by
  refine Met.ofW (cc := cX4_add) (maxL := 2) (ret := none) (by decide) rfl ?_
  intro p e s m args below meth c s₁ B hml hv
  obtain ⟨rfl, hsz, hP, hK, hD0, hF⟩ := hv
  have hx := B.exec
  have hb := B.bytes
  have hr := B.returns
  have hts := atoms_spec (ws := wbX4_add) B.pre
  have hta : ∀ w ∈ wsALL, w.before _ s = true := fun w h => hts w (List.mem_cons_of_mem _ h)
  have hown : s.vm.findClass RX4 = some m.cls := findClass_of_methodNamed B.named
  have hlocks := B.notSynchronized
  subst hsz
  have hD := hD0.self (sz := s.heap.size)
  generalize hAe : va_A [(h0, .inr (11, [.ref h1, .int 3])), (h1, .inl (cc0, 4960, .inl f0))] s.heap.size = A at hD hF ⊢
  have hA : ∀ q : Nat, s.heap.size ≤ q → A q := fun q h => by rw [← hAe]; exact Or.inr h
  have hS : va_S A s.heap s.heap [] := va_S.rf
  have hP : va_P (dC, dI) vwCl [(h0, .inr (11, [.ref h1, .int 3])), (h1, .inl (cc0, 4960, .inl f0))] s.heap := hP
  have hl := lv_entry ([.ref h0, .int x0]) (n := 2) (Nat.le_of_ble_eq_true rfl)
  rw [lg_entry_eq]
  generalize (lg_sl ([.ref h0, .int x0]) ++ List.replicate (2 - (lg_sl ([.ref h0, .int x0])).length) Slot.unset).toArray = ls at hl ⊢
  have hl : lv_has ls 2 [(0, .ref h0), (1, .int x0)] := hl
  refine lv_aload_n hx hb dX4_add_0 rfl (lv_at hl 0 rfl) ?_
  refine va_get (D := (dC, dI)) (ci := 11) (v := .int 3) (C := RX4) (T := TX4) (N := 2) hx hb hta naX4 hown hK hP 0 rfl rfl 1 (by decide) (hta _ wm14) (fun _ h9 => h9) rfl dX4_add_1 ?_
  refine lv_if_lt (tgt := 39) hx hb dX4_add_4 (by decide) (fun c1 => absurd c1 (by decide)) (fun c1 => ?_)
  refine lv_aload_n hx hb dX4_add_7 rfl (lv_at hl 0 rfl) ?_
  refine va_get (D := (dC, dI)) (ci := 11) (v := .int 3) (C := RX4) (T := TX4) (N := 2) hx hb hta naX4 hown hK hP 0 rfl rfl 1 (by decide) (hta _ wm14) (fun _ h9 => h9) rfl dX4_add_8 ?_
  refine lv_aload_n hx hb dX4_add_11 rfl (lv_at hl 0 rfl) ?_
  refine va_get (D := (dC, dI)) (ci := 11) (v := .ref h1) (C := RX4) (T := TX4) (N := 2) hx hb hta naX4 hown hK hP 0 rfl rfl 0 (by decide) (hta _ wm16) (fun _ h9 => h9) rfl dX4_add_12 ?_
  refine va_alen (v := 4960) hx hb hK hP 1 0 rfl rfl (show Int32.ofNat 4960 = 4960 by decide) dX4_add_15 ?_
  refine lv_icmp_ge (tgt := 39) hx hb dX4_add_16 (by decide) (fun c2 => absurd c2 (by decide)) (fun c2 => ?_)
  refine lv_aload_n hx hb dX4_add_19 rfl (lv_at hl 0 rfl) ?_
  refine va_get (D := (dC, dI)) (ci := 11) (v := .ref h1) (C := RX4) (T := TX4) (N := 2) hx hb hta naX4 hown hK hP 0 rfl rfl 0 (by decide) (hta _ wm16) (fun _ h9 => h9) rfl dX4_add_20 ?_
  refine lv_aload_n hx hb dX4_add_23 rfl (lv_at hl 0 rfl) ?_
  refine va_get (D := (dC, dI)) (ci := 11) (v := .int 3) (C := RX4) (T := TX4) (N := 2) hx hb hta naX4 hown hK hP 0 rfl rfl 1 (by decide) (hta _ wm14) (fun _ h9 => h9) rfl dX4_add_24 ?_
  refine lv_iload_n hx hb dX4_add_27 rfl (lv_at hl 1 rfl) ?_
  refine va_iast hx hb hK hP hD hS 1 0 rfl rfl (vp_in_nI (n := 3) (by decide) (by decide)) dX4_add_28 (fun H locs hP hD hS => ?_)
  have hP : va_P (dC, dI) vwCl [(h0, .inr (11, [.ref h1, .int 3])), (h1, .inl (cc0, 4960, .inl (upd (f0) 3 x0)))] H := hP
  have hD : va_D A [(h0, .inr (11, [.ref h1, .int 3])), (h1, .inl (cc0, 4960, .inl (upd (f0) 3 x0)))] := hD
  refine lv_aload_n hx hb dX4_add_29 rfl (lv_at hl 0 rfl) ?_
  refine lv_dup hx hb dX4_add_30 rfl ?_
  refine va_get (D := (dC, dI)) (ci := 11) (v := .int 3) (C := RX4) (T := TX4) (N := 2) hx hb hta naX4 hown hK hP 0 rfl rfl 1 (by decide) (hta _ wm14) (fun _ h9 => h9) rfl dX4_add_31 ?_
  refine lv_iconst (v := 1) hx hb dX4_add_34 (by decide) ?_
  refine lv_iadd hx hb dX4_add_35 ?_
  refine lv_topi (fun y3 ey3 => ?_)
  obtain rfl : y3 = 4 := ey3.trans (by decide)
  refine va_put (D := (dC, dI)) (ci := 11) (v := .int 4) (ty := .int) (C := RX4) (T := TX4) (N := 2) hx hb hta naX4 tyX4 tyX4_ok nmX4 hown hK hP hD hS 0 rfl rfl 1 (by decide) (hta _ wm14) (fun _ h9 => h9) rfl (by decide +kernel) rfl rfl (Nat.le_of_ble_eq_true rfl) dX4_add_36 (fun H locs hP hD hS => ?_)
  have hP : va_P (dC, dI) vwCl [(h0, .inr (11, [.ref h1, .int 4])), (h1, .inl (cc0, 4960, .inl (upd (f0) 3 x0)))] H := hP
  have hD : va_D A [(h0, .inr (11, [.ref h1, .int 4])), (h1, .inl (cc0, 4960, .inl (upd (f0) 3 x0)))] := hD
  have hP9 := hP.sub (ws' := [(h0, .inr (11, [.ref h1, .int 4])), (h1, .inl (cc0, 4960, .inl (upd (f0) 3 x0)))]) [0, 1] rfl
  have hD9 := hD.sub (ws' := [(h0, .inr (11, [.ref h1, .int 4])), (h1, .inl (cc0, 4960, .inl (upd (f0) 3 x0)))]) [0, 1] (by decide) rfl
  have hK9 := hK.sub (tys' := [(cc0, .int)]) [0] rfl
  refine W.widen (k := 0) (n := 0) (Nat.le_of_ble_eq_true rfl) (Nat.le_of_ble_eq_true rfl) ?_
  exact W.vret hx hb hr (fun t ht hW => ⟨⟨(), rfl, trivial, by rw [ht]; exact hP9, va_K.moved hW.alike hK9, hD9⟩, hS.F ht⟩) hS.2.2 dX4_add_39
set_option maxHeartbeats 4000000 in
set_option maxRecDepth 100000 in
theorem kX4_add_48 (l : Launch) (dC : Nat → ClassId) (dI : Nat → Nat → Nat) (g : Nat → Nat) (sz : Nat) (h0 : Nat) (x0 : Int32) (h1 : Nat) (cc0 : ClassId) (f0 : Nat → Int32) (ex0 : (22 : Int) ≤ x0.toInt ∧ x0.toInt ≤ (2147483647 : Int)) : Met l yX4_add wbX4_add ({ frames := 0, cells := 0, slots := 0, locals := 0 }) (va_Pc [.ref h0, .int x0] (fun U => U.heap.size = sz ∧ va_P (dC, dI) vwCl [(h0, .inr (11, [.ref h1, .int 2])), (h1, .inl (cc0, 6, .inl f0))] U.heap ∧ va_K (dC, dI) vwCl [(cc0, .int)] U ∧ va_D (fun _ => True) [(h0, .inr (11, [.ref h1, .int 2])), (h1, .inl (cc0, 6, .inl f0))] ∧ ns_F g (va_A [(h0, .inr (11, [.ref h1, .int 2])), (h1, .inl (cc0, 6, .inl f0))] sz) U U.heap)) (va_Qv (fun _ : Unit => True) (fun _ t => va_P (dC, dI) vwCl [(h0, .inr (11, [.ref h1, .int 3])), (h1, .inl (cc0, 6, .inl (upd (f0) 2 x0)))] t.heap ∧ va_K (dC, dI) vwCl [(cc0, .int)] t ∧ va_D (va_A [(h0, .inr (11, [.ref h1, .int 2])), (h1, .inl (cc0, 6, .inl f0))] sz) [(h0, .inr (11, [.ref h1, .int 3])), (h1, .inl (cc0, 6, .inl (upd (f0) 2 x0)))]) (va_A [(h0, .inr (11, [.ref h1, .int 2])), (h1, .inl (cc0, 6, .inl f0))] sz)) 0 0 (va_A [(h0, .inr (11, [.ref h1, .int 2])), (h1, .inl (cc0, 6, .inl f0))] sz) := by
  refine Met.ofW (cc := cX4_add) (maxL := 2) (ret := none) (by decide) rfl ?_
  intro p e s m args below meth c s₁ B hml hv
  obtain ⟨rfl, hsz, hP, hK, hD0, hF⟩ := hv
  have hx := B.exec
  have hb := B.bytes
  have hr := B.returns
  have hts := atoms_spec (ws := wbX4_add) B.pre
  have hta : ∀ w ∈ wsALL, w.before _ s = true := fun w h => hts w (List.mem_cons_of_mem _ h)
  have hown : s.vm.findClass RX4 = some m.cls := findClass_of_methodNamed B.named
  have hlocks := B.notSynchronized
  subst hsz
  have hD := hD0.self (sz := s.heap.size)
  generalize hAe : va_A [(h0, .inr (11, [.ref h1, .int 2])), (h1, .inl (cc0, 6, .inl f0))] s.heap.size = A at hD hF ⊢
  have hA : ∀ q : Nat, s.heap.size ≤ q → A q := fun q h => by rw [← hAe]; exact Or.inr h
  have hS : va_S A s.heap s.heap [] := va_S.rf
  have hP : va_P (dC, dI) vwCl [(h0, .inr (11, [.ref h1, .int 2])), (h1, .inl (cc0, 6, .inl f0))] s.heap := hP
  have hl := lv_entry ([.ref h0, .int x0]) (n := 2) (Nat.le_of_ble_eq_true rfl)
  rw [lg_entry_eq]
  generalize (lg_sl ([.ref h0, .int x0]) ++ List.replicate (2 - (lg_sl ([.ref h0, .int x0])).length) Slot.unset).toArray = ls at hl ⊢
  have hl : lv_has ls 2 [(0, .ref h0), (1, .int x0)] := hl
  refine lv_aload_n hx hb dX4_add_0 rfl (lv_at hl 0 rfl) ?_
  refine va_get (D := (dC, dI)) (ci := 11) (v := .int 2) (C := RX4) (T := TX4) (N := 2) hx hb hta naX4 hown hK hP 0 rfl rfl 1 (by decide) (hta _ wm14) (fun _ h9 => h9) rfl dX4_add_1 ?_
  refine lv_if_lt (tgt := 39) hx hb dX4_add_4 (by decide) (fun c1 => absurd c1 (by decide)) (fun c1 => ?_)
  refine lv_aload_n hx hb dX4_add_7 rfl (lv_at hl 0 rfl) ?_
  refine va_get (D := (dC, dI)) (ci := 11) (v := .int 2) (C := RX4) (T := TX4) (N := 2) hx hb hta naX4 hown hK hP 0 rfl rfl 1 (by decide) (hta _ wm14) (fun _ h9 => h9) rfl dX4_add_8 ?_
  refine lv_aload_n hx hb dX4_add_11 rfl (lv_at hl 0 rfl) ?_
  refine va_get (D := (dC, dI)) (ci := 11) (v := .ref h1) (C := RX4) (T := TX4) (N := 2) hx hb hta naX4 hown hK hP 0 rfl rfl 0 (by decide) (hta _ wm16) (fun _ h9 => h9) rfl dX4_add_12 ?_
  refine va_alen (v := 6) hx hb hK hP 1 0 rfl rfl (show Int32.ofNat 6 = 6 by decide) dX4_add_15 ?_
  refine lv_icmp_ge (tgt := 39) hx hb dX4_add_16 (by decide) (fun c2 => absurd c2 (by decide)) (fun c2 => ?_)
  refine lv_aload_n hx hb dX4_add_19 rfl (lv_at hl 0 rfl) ?_
  refine va_get (D := (dC, dI)) (ci := 11) (v := .ref h1) (C := RX4) (T := TX4) (N := 2) hx hb hta naX4 hown hK hP 0 rfl rfl 0 (by decide) (hta _ wm16) (fun _ h9 => h9) rfl dX4_add_20 ?_
  refine lv_aload_n hx hb dX4_add_23 rfl (lv_at hl 0 rfl) ?_
  refine va_get (D := (dC, dI)) (ci := 11) (v := .int 2) (C := RX4) (T := TX4) (N := 2) hx hb hta naX4 hown hK hP 0 rfl rfl 1 (by decide) (hta _ wm14) (fun _ h9 => h9) rfl dX4_add_24 ?_
  refine lv_iload_n hx hb dX4_add_27 rfl (lv_at hl 1 rfl) ?_
  refine va_iast hx hb hK hP hD hS 1 0 rfl rfl (vp_in_nI (n := 2) (by decide) (by decide)) dX4_add_28 (fun H locs hP hD hS => ?_)
  have hP : va_P (dC, dI) vwCl [(h0, .inr (11, [.ref h1, .int 2])), (h1, .inl (cc0, 6, .inl (upd (f0) 2 x0)))] H := hP
  have hD : va_D A [(h0, .inr (11, [.ref h1, .int 2])), (h1, .inl (cc0, 6, .inl (upd (f0) 2 x0)))] := hD
  refine lv_aload_n hx hb dX4_add_29 rfl (lv_at hl 0 rfl) ?_
  refine lv_dup hx hb dX4_add_30 rfl ?_
  refine va_get (D := (dC, dI)) (ci := 11) (v := .int 2) (C := RX4) (T := TX4) (N := 2) hx hb hta naX4 hown hK hP 0 rfl rfl 1 (by decide) (hta _ wm14) (fun _ h9 => h9) rfl dX4_add_31 ?_
  refine lv_iconst (v := 1) hx hb dX4_add_34 (by decide) ?_
  refine lv_iadd hx hb dX4_add_35 ?_
  refine lv_topi (fun y3 ey3 => ?_)
  obtain rfl : y3 = 3 := ey3.trans (by decide)
  refine va_put (D := (dC, dI)) (ci := 11) (v := .int 3) (ty := .int) (C := RX4) (T := TX4) (N := 2) hx hb hta naX4 tyX4 tyX4_ok nmX4 hown hK hP hD hS 0 rfl rfl 1 (by decide) (hta _ wm14) (fun _ h9 => h9) rfl (by decide +kernel) rfl rfl (Nat.le_of_ble_eq_true rfl) dX4_add_36 (fun H locs hP hD hS => ?_)
  have hP : va_P (dC, dI) vwCl [(h0, .inr (11, [.ref h1, .int 3])), (h1, .inl (cc0, 6, .inl (upd (f0) 2 x0)))] H := hP
  have hD : va_D A [(h0, .inr (11, [.ref h1, .int 3])), (h1, .inl (cc0, 6, .inl (upd (f0) 2 x0)))] := hD
  have hP9 := hP.sub (ws' := [(h0, .inr (11, [.ref h1, .int 3])), (h1, .inl (cc0, 6, .inl (upd (f0) 2 x0)))]) [0, 1] rfl
  have hD9 := hD.sub (ws' := [(h0, .inr (11, [.ref h1, .int 3])), (h1, .inl (cc0, 6, .inl (upd (f0) 2 x0)))]) [0, 1] (by decide) rfl
  have hK9 := hK.sub (tys' := [(cc0, .int)]) [0] rfl
  refine W.widen (k := 0) (n := 0) (Nat.le_of_ble_eq_true rfl) (Nat.le_of_ble_eq_true rfl) ?_
  exact W.vret hx hb hr (fun t ht hW => ⟨⟨(), rfl, trivial, by rw [ht]; exact hP9, va_K.moved hW.alike hK9, hD9⟩, hS.F ht⟩) hS.2.2 dX4_add_39
set_option maxHeartbeats 4000000 in
set_option maxRecDepth 100000 in
theorem kX4_add_20 (l : Launch) (dC : Nat → ClassId) (dI : Nat → Nat → Nat) (g : Nat → Nat) (sz : Nat) (h0 : Nat) (h1 : Nat) (cc0 : ClassId) (f0 : Nat → Int32) : Met l yX4_add wbX4_add ({ frames := 0, cells := 0, slots := 0, locals := 0 }) (va_Pc [.ref h0, .int 9] (fun U => U.heap.size = sz ∧ va_P (dC, dI) vwCl [(h0, .inr (11, [.ref h1, .int 0])), (h1, .inl (cc0, 4960, .inl f0))] U.heap ∧ va_K (dC, dI) vwCl [(cc0, .int)] U ∧ va_D (fun _ => True) [(h0, .inr (11, [.ref h1, .int 0])), (h1, .inl (cc0, 4960, .inl f0))] ∧ ns_F g (va_A [(h0, .inr (11, [.ref h1, .int 0])), (h1, .inl (cc0, 4960, .inl f0))] sz) U U.heap)) (va_Qv (fun _ : Unit => True) (fun _ t => va_P (dC, dI) vwCl [(h0, .inr (11, [.ref h1, .int 1])), (h1, .inl (cc0, 4960, .inl (upd (f0) 0 9)))] t.heap ∧ va_K (dC, dI) vwCl [(cc0, .int)] t ∧ va_D (va_A [(h0, .inr (11, [.ref h1, .int 0])), (h1, .inl (cc0, 4960, .inl f0))] sz) [(h0, .inr (11, [.ref h1, .int 1])), (h1, .inl (cc0, 4960, .inl (upd (f0) 0 9)))]) (va_A [(h0, .inr (11, [.ref h1, .int 0])), (h1, .inl (cc0, 4960, .inl f0))] sz)) 0 0 (va_A [(h0, .inr (11, [.ref h1, .int 0])), (h1, .inl (cc0, 4960, .inl f0))] sz) := by
  refine Met.ofW (cc := cX4_add) (maxL := 2) (ret := none) (by decide) rfl ?_
  intro p e s m args below meth c s₁ B hml hv
  obtain ⟨rfl, hsz, hP, hK, hD0, hF⟩ := hv
  have hx := B.exec
  have hb := B.bytes
  have hr := B.returns
  have hts := atoms_spec (ws := wbX4_add) B.pre
  have hta : ∀ w ∈ wsALL, w.before _ s = true := fun w h => hts w (List.mem_cons_of_mem _ h)
  have hown : s.vm.findClass RX4 = some m.cls := findClass_of_methodNamed B.named
  have hlocks := B.notSynchronized
  subst hsz
  have hD := hD0.self (sz := s.heap.size)
  generalize hAe : va_A [(h0, .inr (11, [.ref h1, .int 0])), (h1, .inl (cc0, 4960, .inl f0))] s.heap.size = A at hD hF ⊢
  have hA : ∀ q : Nat, s.heap.size ≤ q → A q := fun q h => by rw [← hAe]; exact Or.inr h
  have hS : va_S A s.heap s.heap [] := va_S.rf
  have hP : va_P (dC, dI) vwCl [(h0, .inr (11, [.ref h1, .int 0])), (h1, .inl (cc0, 4960, .inl f0))] s.heap := hP
  have hl := lv_entry ([.ref h0, .int 9]) (n := 2) (Nat.le_of_ble_eq_true rfl)
  rw [lg_entry_eq]
  generalize (lg_sl ([.ref h0, .int 9]) ++ List.replicate (2 - (lg_sl ([.ref h0, .int 9])).length) Slot.unset).toArray = ls at hl ⊢
  have hl : lv_has ls 2 [(0, .ref h0), (1, .int 9)] := hl
  refine lv_aload_n hx hb dX4_add_0 rfl (lv_at hl 0 rfl) ?_
  refine va_get (D := (dC, dI)) (ci := 11) (v := .int 0) (C := RX4) (T := TX4) (N := 2) hx hb hta naX4 hown hK hP 0 rfl rfl 1 (by decide) (hta _ wm14) (fun _ h9 => h9) rfl dX4_add_1 ?_
  refine lv_if_lt (tgt := 39) hx hb dX4_add_4 (by decide) (fun c1 => absurd c1 (by decide)) (fun c1 => ?_)
  refine lv_aload_n hx hb dX4_add_7 rfl (lv_at hl 0 rfl) ?_
  refine va_get (D := (dC, dI)) (ci := 11) (v := .int 0) (C := RX4) (T := TX4) (N := 2) hx hb hta naX4 hown hK hP 0 rfl rfl 1 (by decide) (hta _ wm14) (fun _ h9 => h9) rfl dX4_add_8 ?_
  refine lv_aload_n hx hb dX4_add_11 rfl (lv_at hl 0 rfl) ?_
  refine va_get (D := (dC, dI)) (ci := 11) (v := .ref h1) (C := RX4) (T := TX4) (N := 2) hx hb hta naX4 hown hK hP 0 rfl rfl 0 (by decide) (hta _ wm16) (fun _ h9 => h9) rfl dX4_add_12 ?_
  refine va_alen (v := 4960) hx hb hK hP 1 0 rfl rfl (show Int32.ofNat 4960 = 4960 by decide) dX4_add_15 ?_
  refine lv_icmp_ge (tgt := 39) hx hb dX4_add_16 (by decide) (fun c2 => absurd c2 (by decide)) (fun c2 => ?_)
  refine lv_aload_n hx hb dX4_add_19 rfl (lv_at hl 0 rfl) ?_
  refine va_get (D := (dC, dI)) (ci := 11) (v := .ref h1) (C := RX4) (T := TX4) (N := 2) hx hb hta naX4 hown hK hP 0 rfl rfl 0 (by decide) (hta _ wm16) (fun _ h9 => h9) rfl dX4_add_20 ?_
  refine lv_aload_n hx hb dX4_add_23 rfl (lv_at hl 0 rfl) ?_
  refine va_get (D := (dC, dI)) (ci := 11) (v := .int 0) (C := RX4) (T := TX4) (N := 2) hx hb hta naX4 hown hK hP 0 rfl rfl 1 (by decide) (hta _ wm14) (fun _ h9 => h9) rfl dX4_add_24 ?_
  refine lv_iload_n hx hb dX4_add_27 rfl (lv_at hl 1 rfl) ?_
  refine va_iast hx hb hK hP hD hS 1 0 rfl rfl (vp_in_nI (n := 0) (by decide) (by decide)) dX4_add_28 (fun H locs hP hD hS => ?_)
  have hP : va_P (dC, dI) vwCl [(h0, .inr (11, [.ref h1, .int 0])), (h1, .inl (cc0, 4960, .inl (upd (f0) 0 9)))] H := hP
  have hD : va_D A [(h0, .inr (11, [.ref h1, .int 0])), (h1, .inl (cc0, 4960, .inl (upd (f0) 0 9)))] := hD
  refine lv_aload_n hx hb dX4_add_29 rfl (lv_at hl 0 rfl) ?_
  refine lv_dup hx hb dX4_add_30 rfl ?_
  refine va_get (D := (dC, dI)) (ci := 11) (v := .int 0) (C := RX4) (T := TX4) (N := 2) hx hb hta naX4 hown hK hP 0 rfl rfl 1 (by decide) (hta _ wm14) (fun _ h9 => h9) rfl dX4_add_31 ?_
  refine lv_iconst (v := 1) hx hb dX4_add_34 (by decide) ?_
  refine lv_iadd hx hb dX4_add_35 ?_
  refine lv_topi (fun y3 ey3 => ?_)
  obtain rfl : y3 = 1 := ey3.trans (by decide)
  refine va_put (D := (dC, dI)) (ci := 11) (v := .int 1) (ty := .int) (C := RX4) (T := TX4) (N := 2) hx hb hta naX4 tyX4 tyX4_ok nmX4 hown hK hP hD hS 0 rfl rfl 1 (by decide) (hta _ wm14) (fun _ h9 => h9) rfl (by decide +kernel) rfl rfl (Nat.le_of_ble_eq_true rfl) dX4_add_36 (fun H locs hP hD hS => ?_)
  have hP : va_P (dC, dI) vwCl [(h0, .inr (11, [.ref h1, .int 1])), (h1, .inl (cc0, 4960, .inl (upd (f0) 0 9)))] H := hP
  have hD : va_D A [(h0, .inr (11, [.ref h1, .int 1])), (h1, .inl (cc0, 4960, .inl (upd (f0) 0 9)))] := hD
  have hP9 := hP.sub (ws' := [(h0, .inr (11, [.ref h1, .int 1])), (h1, .inl (cc0, 4960, .inl (upd (f0) 0 9)))]) [0, 1] rfl
  have hD9 := hD.sub (ws' := [(h0, .inr (11, [.ref h1, .int 1])), (h1, .inl (cc0, 4960, .inl (upd (f0) 0 9)))]) [0, 1] (by decide) rfl
  have hK9 := hK.sub (tys' := [(cc0, .int)]) [0] rfl
  refine W.widen (k := 0) (n := 0) (Nat.le_of_ble_eq_true rfl) (Nat.le_of_ble_eq_true rfl) ?_
  exact W.vret hx hb hr (fun t ht hW => ⟨⟨(), rfl, trivial, by rw [ht]; exact hP9, va_K.moved hW.alike hK9, hD9⟩, hS.F ht⟩) hS.2.2 dX4_add_39
set_option maxHeartbeats 4000000 in
set_option maxRecDepth 100000 in
theorem kX4_get_20 (l : Launch) (dC : Nat → ClassId) (dI : Nat → Nat → Nat) (g : Nat → Nat) (sz : Nat) (h0 : Nat) (h1 : Nat) (cc0 : ClassId) (x0 : Int32) (x1 : Int32) (x2 : Int32) (x3 : Int32) (x4 : Int32) (x5 : Int32) (ex0 : (-1 : Int) ≤ x0.toInt ∧ x0.toInt ≤ (21 : Int)) (ex1 : (-1 : Int) ≤ x1.toInt ∧ x1.toInt ≤ (21 : Int)) (ex2 : (-1 : Int) ≤ x2.toInt ∧ x2.toInt ≤ (21 : Int)) (ex3 : (-1 : Int) ≤ x3.toInt ∧ x3.toInt ≤ (21 : Int)) (ex4 : (-1 : Int) ≤ x4.toInt ∧ x4.toInt ≤ (21 : Int)) (ex5 : (-2147483648 : Int) ≤ x5.toInt ∧ x5.toInt ≤ (-2 : Int)) : Met l yX4_get wbX4_get ({ frames := 0, cells := 0, slots := 0, locals := 0 }) (va_Pc [.ref h0, .int 4] (fun U => U.heap.size = sz ∧ va_P (dC, dI) vwCl [(h0, .inr (11, [.ref h1, .int 6])), (h1, .inl (cc0, 6, .inl (upd (upd (upd (upd (upd (upd (fun _ => 0) 0 x0) 1 x1) 2 x2) 3 x3) 4 x4) 5 x5)))] U.heap ∧ va_K (dC, dI) vwCl [(cc0, .int)] U ∧ va_D (fun _ => True) [(h0, .inr (11, [.ref h1, .int 6])), (h1, .inl (cc0, 6, .inl (upd (upd (upd (upd (upd (upd (fun _ => 0) 0 x0) 1 x1) 2 x2) 3 x3) 4 x4) 5 x5)))] ∧ ns_F g (va_A [(h0, .inr (11, [.ref h1, .int 6])), (h1, .inl (cc0, 6, .inl (upd (upd (upd (upd (upd (upd (fun _ => 0) 0 x0) 1 x1) 2 x2) 3 x3) 4 x4) 5 x5)))] sz) U U.heap)) (va_Qi (fun (r : Int32) (_ : Unit) => r = x4) (fun _ t => va_P (dC, dI) vwCl [(h0, .inr (11, [.ref h1, .int 6])), (h1, .inl (cc0, 6, .inl (upd (upd (upd (upd (upd (upd (fun _ => 0) 0 x0) 1 x1) 2 x2) 3 x3) 4 x4) 5 x5)))] t.heap ∧ va_K (dC, dI) vwCl [(cc0, .int)] t ∧ va_D (va_A [(h0, .inr (11, [.ref h1, .int 6])), (h1, .inl (cc0, 6, .inl (upd (upd (upd (upd (upd (upd (fun _ => 0) 0 x0) 1 x1) 2 x2) 3 x3) 4 x4) 5 x5)))] sz) [(h0, .inr (11, [.ref h1, .int 6])), (h1, .inl (cc0, 6, .inl (upd (upd (upd (upd (upd (upd (fun _ => 0) 0 x0) 1 x1) 2 x2) 3 x3) 4 x4) 5 x5)))]) (va_A [(h0, .inr (11, [.ref h1, .int 6])), (h1, .inl (cc0, 6, .inl (upd (upd (upd (upd (upd (upd (fun _ => 0) 0 x0) 1 x1) 2 x2) 3 x3) 4 x4) 5 x5)))] sz)) 0 0 (va_A [(h0, .inr (11, [.ref h1, .int 6])), (h1, .inl (cc0, 6, .inl (upd (upd (upd (upd (upd (upd (fun _ => 0) 0 x0) 1 x1) 2 x2) 3 x3) 4 x4) 5 x5)))] sz) := by
  refine Met.ofW (cc := cX4_get) (maxL := 2) (ret := (some .int)) (by decide) rfl ?_
  intro p e s m args below meth c s₁ B hml hv
  obtain ⟨rfl, hsz, hP, hK, hD0, hF⟩ := hv
  have hx := B.exec
  have hb := B.bytes
  have hr := B.returns
  have hts := atoms_spec (ws := wbX4_get) B.pre
  have hta : ∀ w ∈ wsALL, w.before _ s = true := fun w h => hts w (List.mem_cons_of_mem _ h)
  have hown : s.vm.findClass RX4 = some m.cls := findClass_of_methodNamed B.named
  have hlocks := B.notSynchronized
  subst hsz
  have hD := hD0.self (sz := s.heap.size)
  generalize hAe : va_A [(h0, .inr (11, [.ref h1, .int 6])), (h1, .inl (cc0, 6, .inl (upd (upd (upd (upd (upd (upd (fun _ => 0) 0 x0) 1 x1) 2 x2) 3 x3) 4 x4) 5 x5)))] s.heap.size = A at hD hF ⊢
  have hA : ∀ q : Nat, s.heap.size ≤ q → A q := fun q h => by rw [← hAe]; exact Or.inr h
  have hS : va_S A s.heap s.heap [] := va_S.rf
  have hP : va_P (dC, dI) vwCl [(h0, .inr (11, [.ref h1, .int 6])), (h1, .inl (cc0, 6, .inl (upd (upd (upd (upd (upd (upd (fun _ => 0) 0 x0) 1 x1) 2 x2) 3 x3) 4 x4) 5 x5)))] s.heap := hP
  have hl := lv_entry ([.ref h0, .int 4]) (n := 2) (Nat.le_of_ble_eq_true rfl)
  rw [lg_entry_eq]
  generalize (lg_sl ([.ref h0, .int 4]) ++ List.replicate (2 - (lg_sl ([.ref h0, .int 4])).length) Slot.unset).toArray = ls at hl ⊢
  have hl : lv_has ls 2 [(0, .ref h0), (1, .int 4)] := hl
  refine lv_iload_n hx hb dX4_get_0 rfl (lv_at hl 1 rfl) ?_
  refine lv_if_lt (tgt := 30) hx hb dX4_get_1 (by decide) (fun c1 => absurd c1 (by decide)) (fun c1 => ?_)
  refine lv_iload_n hx hb dX4_get_4 rfl (lv_at hl 1 rfl) ?_
  refine lv_aload_n hx hb dX4_get_5 rfl (lv_at hl 0 rfl) ?_
  refine va_get (D := (dC, dI)) (ci := 11) (v := .int 6) (C := RX4) (T := TX4) (N := 2) hx hb hta naX4 hown hK hP 0 rfl rfl 1 (by decide) (hta _ wm14) (fun _ h9 => h9) rfl dX4_get_6 ?_
  refine lv_icmp_ge (tgt := 30) hx hb dX4_get_9 (by decide) (fun c2 => absurd c2 (by decide)) (fun c2 => ?_)
  refine lv_iload_n hx hb dX4_get_12 rfl (lv_at hl 1 rfl) ?_
  refine lv_aload_n hx hb dX4_get_13 rfl (lv_at hl 0 rfl) ?_
  refine va_get (D := (dC, dI)) (ci := 11) (v := .ref h1) (C := RX4) (T := TX4) (N := 2) hx hb hta naX4 hown hK hP 0 rfl rfl 0 (by decide) (hta _ wm16) (fun _ h9 => h9) rfl dX4_get_14 ?_
  refine va_alen (v := 6) hx hb hK hP 1 0 rfl rfl (show Int32.ofNat 6 = 6 by decide) dX4_get_17 ?_
  refine lv_icmp_ge (tgt := 30) hx hb dX4_get_18 (by decide) (fun c3 => absurd c3 (by decide)) (fun c3 => ?_)
  refine lv_aload_n hx hb dX4_get_21 rfl (lv_at hl 0 rfl) ?_
  refine va_get (D := (dC, dI)) (ci := 11) (v := .ref h1) (C := RX4) (T := TX4) (N := 2) hx hb hta naX4 hown hK hP 0 rfl rfl 0 (by decide) (hta _ wm16) (fun _ h9 => h9) rfl dX4_get_22 ?_
  refine lv_iload_n hx hb dX4_get_25 rfl (lv_at hl 1 rfl) ?_
  refine va_iald hx hb hK hP 1 0 rfl rfl (vp_in_nI (n := 4) (by decide) (by decide)) dX4_get_26 ?_
  refine lv_topi (fun y4 ey4 => ?_)
  obtain rfl : x4 = y4 := ey4.symm
  refine lv_goto (tgt := 31) hx hb dX4_get_27 (by decide) ?_
  have hP9 := hP.sub (ws' := [(h0, .inr (11, [.ref h1, .int 6])), (h1, .inl (cc0, 6, .inl (upd (upd (upd (upd (upd (upd (fun _ => 0) 0 x0) 1 x1) 2 x2) 3 x3) 4 x4) 5 x5)))]) [0, 1] rfl
  have hD9 := hD.sub (ws' := [(h0, .inr (11, [.ref h1, .int 6])), (h1, .inl (cc0, 6, .inl (upd (upd (upd (upd (upd (upd (fun _ => 0) 0 x0) 1 x1) 2 x2) 3 x3) 4 x4) 5 x5)))]) [0, 1] (by decide) rfl
  have hK9 := hK.sub (tys' := [(cc0, .int)]) [0] rfl
  refine W.widen (k := 0) (n := 0) (Nat.le_of_ble_eq_true rfl) (Nat.le_of_ble_eq_true rfl) ?_
  exact W.iret (v := x4) hx hb hr (fun t ht hW => ⟨⟨_, (), rfl, rfl, by rw [ht]; exact hP9, va_K.moved hW.alike hK9, hD9⟩, hS.F ht⟩) hS.2.2 dX4_get_31
set_option maxHeartbeats 4000000 in
set_option maxRecDepth 100000 in
theorem kX4_get_27 (l : Launch) (dC : Nat → ClassId) (dI : Nat → Nat → Nat) (g : Nat → Nat) (sz : Nat) (h0 : Nat) (h1 : Nat) (cc0 : ClassId) (x0 : Int32) (x1 : Int32) (x2 : Int32) (x3 : Int32) (x4 : Int32) (x5 : Int32) (ex0 : (-1 : Int) ≤ x0.toInt ∧ x0.toInt ≤ (21 : Int)) (ex1 : (-1 : Int) ≤ x1.toInt ∧ x1.toInt ≤ (21 : Int)) (ex2 : (-1 : Int) ≤ x2.toInt ∧ x2.toInt ≤ (21 : Int)) (ex3 : (-1 : Int) ≤ x3.toInt ∧ x3.toInt ≤ (21 : Int)) (ex4 : (-1 : Int) ≤ x4.toInt ∧ x4.toInt ≤ (21 : Int)) (ex5 : (-1 : Int) ≤ x5.toInt ∧ x5.toInt ≤ (21 : Int)) : Met l yX4_get wbX4_get ({ frames := 0, cells := 0, slots := 0, locals := 0 }) (va_Pc [.ref h0, .int 5] (fun U => U.heap.size = sz ∧ va_P (dC, dI) vwCl [(h0, .inr (11, [.ref h1, .int 6])), (h1, .inl (cc0, 6, .inl (upd (upd (upd (upd (upd (upd (fun _ => 0) 0 x0) 1 x1) 2 x2) 3 x3) 4 x4) 5 x5)))] U.heap ∧ va_K (dC, dI) vwCl [(cc0, .int)] U ∧ va_D (fun _ => True) [(h0, .inr (11, [.ref h1, .int 6])), (h1, .inl (cc0, 6, .inl (upd (upd (upd (upd (upd (upd (fun _ => 0) 0 x0) 1 x1) 2 x2) 3 x3) 4 x4) 5 x5)))] ∧ ns_F g (va_A [(h0, .inr (11, [.ref h1, .int 6])), (h1, .inl (cc0, 6, .inl (upd (upd (upd (upd (upd (upd (fun _ => 0) 0 x0) 1 x1) 2 x2) 3 x3) 4 x4) 5 x5)))] sz) U U.heap)) (va_Qi (fun (r : Int32) (_ : Unit) => r = x5) (fun _ t => va_P (dC, dI) vwCl [(h0, .inr (11, [.ref h1, .int 6])), (h1, .inl (cc0, 6, .inl (upd (upd (upd (upd (upd (upd (fun _ => 0) 0 x0) 1 x1) 2 x2) 3 x3) 4 x4) 5 x5)))] t.heap ∧ va_K (dC, dI) vwCl [(cc0, .int)] t ∧ va_D (va_A [(h0, .inr (11, [.ref h1, .int 6])), (h1, .inl (cc0, 6, .inl (upd (upd (upd (upd (upd (upd (fun _ => 0) 0 x0) 1 x1) 2 x2) 3 x3) 4 x4) 5 x5)))] sz) [(h0, .inr (11, [.ref h1, .int 6])), (h1, .inl (cc0, 6, .inl (upd (upd (upd (upd (upd (upd (fun _ => 0) 0 x0) 1 x1) 2 x2) 3 x3) 4 x4) 5 x5)))]) (va_A [(h0, .inr (11, [.ref h1, .int 6])), (h1, .inl (cc0, 6, .inl (upd (upd (upd (upd (upd (upd (fun _ => 0) 0 x0) 1 x1) 2 x2) 3 x3) 4 x4) 5 x5)))] sz)) 0 0 (va_A [(h0, .inr (11, [.ref h1, .int 6])), (h1, .inl (cc0, 6, .inl (upd (upd (upd (upd (upd (upd (fun _ => 0) 0 x0) 1 x1) 2 x2) 3 x3) 4 x4) 5 x5)))] sz) := by
  refine Met.ofW (cc := cX4_get) (maxL := 2) (ret := (some .int)) (by decide) rfl ?_
  intro p e s m args below meth c s₁ B hml hv
  obtain ⟨rfl, hsz, hP, hK, hD0, hF⟩ := hv
  have hx := B.exec
  have hb := B.bytes
  have hr := B.returns
  have hts := atoms_spec (ws := wbX4_get) B.pre
  have hta : ∀ w ∈ wsALL, w.before _ s = true := fun w h => hts w (List.mem_cons_of_mem _ h)
  have hown : s.vm.findClass RX4 = some m.cls := findClass_of_methodNamed B.named
  have hlocks := B.notSynchronized
  subst hsz
  have hD := hD0.self (sz := s.heap.size)
  generalize hAe : va_A [(h0, .inr (11, [.ref h1, .int 6])), (h1, .inl (cc0, 6, .inl (upd (upd (upd (upd (upd (upd (fun _ => 0) 0 x0) 1 x1) 2 x2) 3 x3) 4 x4) 5 x5)))] s.heap.size = A at hD hF ⊢
  have hA : ∀ q : Nat, s.heap.size ≤ q → A q := fun q h => by rw [← hAe]; exact Or.inr h
  have hS : va_S A s.heap s.heap [] := va_S.rf
  have hP : va_P (dC, dI) vwCl [(h0, .inr (11, [.ref h1, .int 6])), (h1, .inl (cc0, 6, .inl (upd (upd (upd (upd (upd (upd (fun _ => 0) 0 x0) 1 x1) 2 x2) 3 x3) 4 x4) 5 x5)))] s.heap := hP
  have hl := lv_entry ([.ref h0, .int 5]) (n := 2) (Nat.le_of_ble_eq_true rfl)
  rw [lg_entry_eq]
  generalize (lg_sl ([.ref h0, .int 5]) ++ List.replicate (2 - (lg_sl ([.ref h0, .int 5])).length) Slot.unset).toArray = ls at hl ⊢
  have hl : lv_has ls 2 [(0, .ref h0), (1, .int 5)] := hl
  refine lv_iload_n hx hb dX4_get_0 rfl (lv_at hl 1 rfl) ?_
  refine lv_if_lt (tgt := 30) hx hb dX4_get_1 (by decide) (fun c1 => absurd c1 (by decide)) (fun c1 => ?_)
  refine lv_iload_n hx hb dX4_get_4 rfl (lv_at hl 1 rfl) ?_
  refine lv_aload_n hx hb dX4_get_5 rfl (lv_at hl 0 rfl) ?_
  refine va_get (D := (dC, dI)) (ci := 11) (v := .int 6) (C := RX4) (T := TX4) (N := 2) hx hb hta naX4 hown hK hP 0 rfl rfl 1 (by decide) (hta _ wm14) (fun _ h9 => h9) rfl dX4_get_6 ?_
  refine lv_icmp_ge (tgt := 30) hx hb dX4_get_9 (by decide) (fun c2 => absurd c2 (by decide)) (fun c2 => ?_)
  refine lv_iload_n hx hb dX4_get_12 rfl (lv_at hl 1 rfl) ?_
  refine lv_aload_n hx hb dX4_get_13 rfl (lv_at hl 0 rfl) ?_
  refine va_get (D := (dC, dI)) (ci := 11) (v := .ref h1) (C := RX4) (T := TX4) (N := 2) hx hb hta naX4 hown hK hP 0 rfl rfl 0 (by decide) (hta _ wm16) (fun _ h9 => h9) rfl dX4_get_14 ?_
  refine va_alen (v := 6) hx hb hK hP 1 0 rfl rfl (show Int32.ofNat 6 = 6 by decide) dX4_get_17 ?_
  refine lv_icmp_ge (tgt := 30) hx hb dX4_get_18 (by decide) (fun c3 => absurd c3 (by decide)) (fun c3 => ?_)
  refine lv_aload_n hx hb dX4_get_21 rfl (lv_at hl 0 rfl) ?_
  refine va_get (D := (dC, dI)) (ci := 11) (v := .ref h1) (C := RX4) (T := TX4) (N := 2) hx hb hta naX4 hown hK hP 0 rfl rfl 0 (by decide) (hta _ wm16) (fun _ h9 => h9) rfl dX4_get_22 ?_
  refine lv_iload_n hx hb dX4_get_25 rfl (lv_at hl 1 rfl) ?_
  refine va_iald hx hb hK hP 1 0 rfl rfl (vp_in_nI (n := 5) (by decide) (by decide)) dX4_get_26 ?_
  refine lv_topi (fun y4 ey4 => ?_)
  obtain rfl : x5 = y4 := ey4.symm
  refine lv_goto (tgt := 31) hx hb dX4_get_27 (by decide) ?_
  have hP9 := hP.sub (ws' := [(h0, .inr (11, [.ref h1, .int 6])), (h1, .inl (cc0, 6, .inl (upd (upd (upd (upd (upd (upd (fun _ => 0) 0 x0) 1 x1) 2 x2) 3 x3) 4 x4) 5 x5)))]) [0, 1] rfl
  have hD9 := hD.sub (ws' := [(h0, .inr (11, [.ref h1, .int 6])), (h1, .inl (cc0, 6, .inl (upd (upd (upd (upd (upd (upd (fun _ => 0) 0 x0) 1 x1) 2 x2) 3 x3) 4 x4) 5 x5)))]) [0, 1] (by decide) rfl
  have hK9 := hK.sub (tys' := [(cc0, .int)]) [0] rfl
  refine W.widen (k := 0) (n := 0) (Nat.le_of_ble_eq_true rfl) (Nat.le_of_ble_eq_true rfl) ?_
  exact W.iret (v := x5) hx hb hr (fun t ht hW => ⟨⟨_, (), rfl, rfl, by rw [ht]; exact hP9, va_K.moved hW.alike hK9, hD9⟩, hS.F ht⟩) hS.2.2 dX4_get_31
set_option maxHeartbeats 4000000 in
set_option maxRecDepth 100000 in
theorem kX4_get_39 (l : Launch) (dC : Nat → ClassId) (dI : Nat → Nat → Nat) (g : Nat → Nat) (sz : Nat) (h0 : Nat) (h1 : Nat) (cc0 : ClassId) (x0 : Int32) (x1 : Int32) (x2 : Int32) (x3 : Int32) (x4 : Int32) (x5 : Int32) (ex0 : (-1 : Int) ≤ x0.toInt ∧ x0.toInt ≤ (21 : Int)) (ex1 : (-1 : Int) ≤ x1.toInt ∧ x1.toInt ≤ (21 : Int)) (ex2 : (-1 : Int) ≤ x2.toInt ∧ x2.toInt ≤ (21 : Int)) (ex3 : (22 : Int) ≤ x3.toInt ∧ x3.toInt ≤ (2147483647 : Int)) : Met l yX4_get wbX4_get ({ frames := 0, cells := 0, slots := 0, locals := 0 }) (va_Pc [.ref h0, .int 0] (fun U => U.heap.size = sz ∧ va_P (dC, dI) vwCl [(h0, .inr (11, [.ref h1, .int 6])), (h1, .inl (cc0, 6, .inl (upd (upd (upd (upd (upd (upd (fun _ => 0) 0 x0) 1 x1) 2 x2) 3 x3) 4 x4) 5 x5)))] U.heap ∧ va_K (dC, dI) vwCl [(cc0, .int)] U ∧ va_D (fun _ => True) [(h0, .inr (11, [.ref h1, .int 6])), (h1, .inl (cc0, 6, .inl (upd (upd (upd (upd (upd (upd (fun _ => 0) 0 x0) 1 x1) 2 x2) 3 x3) 4 x4) 5 x5)))] ∧ ns_F g (va_A [(h0, .inr (11, [.ref h1, .int 6])), (h1, .inl (cc0, 6, .inl (upd (upd (upd (upd (upd (upd (fun _ => 0) 0 x0) 1 x1) 2 x2) 3 x3) 4 x4) 5 x5)))] sz) U U.heap)) (va_Qi (fun (r : Int32) (_ : Unit) => r = x0) (fun _ t => va_P (dC, dI) vwCl [(h0, .inr (11, [.ref h1, .int 6])), (h1, .inl (cc0, 6, .inl (upd (upd (upd (upd (upd (upd (fun _ => 0) 0 x0) 1 x1) 2 x2) 3 x3) 4 x4) 5 x5)))] t.heap ∧ va_K (dC, dI) vwCl [(cc0, .int)] t ∧ va_D (va_A [(h0, .inr (11, [.ref h1, .int 6])), (h1, .inl (cc0, 6, .inl (upd (upd (upd (upd (upd (upd (fun _ => 0) 0 x0) 1 x1) 2 x2) 3 x3) 4 x4) 5 x5)))] sz) [(h0, .inr (11, [.ref h1, .int 6])), (h1, .inl (cc0, 6, .inl (upd (upd (upd (upd (upd (upd (fun _ => 0) 0 x0) 1 x1) 2 x2) 3 x3) 4 x4) 5 x5)))]) (va_A [(h0, .inr (11, [.ref h1, .int 6])), (h1, .inl (cc0, 6, .inl (upd (upd (upd (upd (upd (upd (fun _ => 0) 0 x0) 1 x1) 2 x2) 3 x3) 4 x4) 5 x5)))] sz)) 0 0 (va_A [(h0, .inr (11, [.ref h1, .int 6])), (h1, .inl (cc0, 6, .inl (upd (upd (upd (upd (upd (upd (fun _ => 0) 0 x0) 1 x1) 2 x2) 3 x3) 4 x4) 5 x5)))] sz) := by
  refine Met.ofW (cc := cX4_get) (maxL := 2) (ret := (some .int)) (by decide) rfl ?_
  intro p e s m args below meth c s₁ B hml hv
  obtain ⟨rfl, hsz, hP, hK, hD0, hF⟩ := hv
  have hx := B.exec
  have hb := B.bytes
  have hr := B.returns
  have hts := atoms_spec (ws := wbX4_get) B.pre
  have hta : ∀ w ∈ wsALL, w.before _ s = true := fun w h => hts w (List.mem_cons_of_mem _ h)
  have hown : s.vm.findClass RX4 = some m.cls := findClass_of_methodNamed B.named
  have hlocks := B.notSynchronized
  subst hsz
  have hD := hD0.self (sz := s.heap.size)
  generalize hAe : va_A [(h0, .inr (11, [.ref h1, .int 6])), (h1, .inl (cc0, 6, .inl (upd (upd (upd (upd (upd (upd (fun _ => 0) 0 x0) 1 x1) 2 x2) 3 x3) 4 x4) 5 x5)))] s.heap.size = A at hD hF ⊢
  have hA : ∀ q : Nat, s.heap.size ≤ q → A q := fun q h => by rw [← hAe]; exact Or.inr h
  have hS : va_S A s.heap s.heap [] := va_S.rf
  have hP : va_P (dC, dI) vwCl [(h0, .inr (11, [.ref h1, .int 6])), (h1, .inl (cc0, 6, .inl (upd (upd (upd (upd (upd (upd (fun _ => 0) 0 x0) 1 x1) 2 x2) 3 x3) 4 x4) 5 x5)))] s.heap := hP
  have hl := lv_entry ([.ref h0, .int 0]) (n := 2) (Nat.le_of_ble_eq_true rfl)
  rw [lg_entry_eq]
  generalize (lg_sl ([.ref h0, .int 0]) ++ List.replicate (2 - (lg_sl ([.ref h0, .int 0])).length) Slot.unset).toArray = ls at hl ⊢
  have hl : lv_has ls 2 [(0, .ref h0), (1, .int 0)] := hl
  refine lv_iload_n hx hb dX4_get_0 rfl (lv_at hl 1 rfl) ?_
  refine lv_if_lt (tgt := 30) hx hb dX4_get_1 (by decide) (fun c1 => absurd c1 (by decide)) (fun c1 => ?_)
  refine lv_iload_n hx hb dX4_get_4 rfl (lv_at hl 1 rfl) ?_
  refine lv_aload_n hx hb dX4_get_5 rfl (lv_at hl 0 rfl) ?_
  refine va_get (D := (dC, dI)) (ci := 11) (v := .int 6) (C := RX4) (T := TX4) (N := 2) hx hb hta naX4 hown hK hP 0 rfl rfl 1 (by decide) (hta _ wm14) (fun _ h9 => h9) rfl dX4_get_6 ?_
  refine lv_icmp_ge (tgt := 30) hx hb dX4_get_9 (by decide) (fun c2 => absurd c2 (by decide)) (fun c2 => ?_)
  refine lv_iload_n hx hb dX4_get_12 rfl (lv_at hl 1 rfl) ?_
  refine lv_aload_n hx hb dX4_get_13 rfl (lv_at hl 0 rfl) ?_
  refine va_get (D := (dC, dI)) (ci := 11) (v := .ref h1) (C := RX4) (T := TX4) (N := 2) hx hb hta naX4 hown hK hP 0 rfl rfl 0 (by decide) (hta _ wm16) (fun _ h9 => h9) rfl dX4_get_14 ?_
  refine va_alen (v := 6) hx hb hK hP 1 0 rfl rfl (show Int32.ofNat 6 = 6 by decide) dX4_get_17 ?_
  refine lv_icmp_ge (tgt := 30) hx hb dX4_get_18 (by decide) (fun c3 => absurd c3 (by decide)) (fun c3 => ?_)
  refine lv_aload_n hx hb dX4_get_21 rfl (lv_at hl 0 rfl) ?_
  refine va_get (D := (dC, dI)) (ci := 11) (v := .ref h1) (C := RX4) (T := TX4) (N := 2) hx hb hta naX4 hown hK hP 0 rfl rfl 0 (by decide) (hta _ wm16) (fun _ h9 => h9) rfl dX4_get_22 ?_
  refine lv_iload_n hx hb dX4_get_25 rfl (lv_at hl 1 rfl) ?_
  refine va_iald hx hb hK hP 1 0 rfl rfl (vp_in_nI (n := 0) (by decide) (by decide)) dX4_get_26 ?_
  refine lv_topi (fun y4 ey4 => ?_)
  obtain rfl : x0 = y4 := ey4.symm
  refine lv_goto (tgt := 31) hx hb dX4_get_27 (by decide) ?_
  have hP9 := hP.sub (ws' := [(h0, .inr (11, [.ref h1, .int 6])), (h1, .inl (cc0, 6, .inl (upd (upd (upd (upd (upd (upd (fun _ => 0) 0 x0) 1 x1) 2 x2) 3 x3) 4 x4) 5 x5)))]) [0, 1] rfl
  have hD9 := hD.sub (ws' := [(h0, .inr (11, [.ref h1, .int 6])), (h1, .inl (cc0, 6, .inl (upd (upd (upd (upd (upd (upd (fun _ => 0) 0 x0) 1 x1) 2 x2) 3 x3) 4 x4) 5 x5)))]) [0, 1] (by decide) rfl
  have hK9 := hK.sub (tys' := [(cc0, .int)]) [0] rfl
  refine W.widen (k := 0) (n := 0) (Nat.le_of_ble_eq_true rfl) (Nat.le_of_ble_eq_true rfl) ?_
  exact W.iret (v := x0) hx hb hr (fun t ht hW => ⟨⟨_, (), rfl, rfl, by rw [ht]; exact hP9, va_K.moved hW.alike hK9, hD9⟩, hS.F ht⟩) hS.2.2 dX4_get_31
set_option maxHeartbeats 4000000 in
set_option maxRecDepth 100000 in
theorem kX4_get_46 (l : Launch) (dC : Nat → ClassId) (dI : Nat → Nat → Nat) (g : Nat → Nat) (sz : Nat) (h0 : Nat) (h1 : Nat) (cc0 : ClassId) (x0 : Int32) (x1 : Int32) (x2 : Int32) (x3 : Int32) (x4 : Int32) (x5 : Int32) (ex0 : (-1 : Int) ≤ x0.toInt ∧ x0.toInt ≤ (21 : Int)) (ex1 : (22 : Int) ≤ x1.toInt ∧ x1.toInt ≤ (2147483647 : Int)) : Met l yX4_get wbX4_get ({ frames := 0, cells := 0, slots := 0, locals := 0 }) (va_Pc [.ref h0, .int 0] (fun U => U.heap.size = sz ∧ va_P (dC, dI) vwCl [(h0, .inr (11, [.ref h1, .int 6])), (h1, .inl (cc0, 6, .inl (upd (upd (upd (upd (upd (upd (fun _ => 0) 0 x0) 1 x1) 2 x2) 3 x3) 4 x4) 5 x5)))] U.heap ∧ va_K (dC, dI) vwCl [(cc0, .int)] U ∧ va_D (fun _ => True) [(h0, .inr (11, [.ref h1, .int 6])), (h1, .inl (cc0, 6, .inl (upd (upd (upd (upd (upd (upd (fun _ => 0) 0 x0) 1 x1) 2 x2) 3 x3) 4 x4) 5 x5)))] ∧ ns_F g (va_A [(h0, .inr (11, [.ref h1, .int 6])), (h1, .inl (cc0, 6, .inl (upd (upd (upd (upd (upd (upd (fun _ => 0) 0 x0) 1 x1) 2 x2) 3 x3) 4 x4) 5 x5)))] sz) U U.heap)) (va_Qi (fun (r : Int32) (_ : Unit) => r = x0) (fun _ t => va_P (dC, dI) vwCl [(h0, .inr (11, [.ref h1, .int 6])), (h1, .inl (cc0, 6, .inl (upd (upd (upd (upd (upd (upd (fun _ => 0) 0 x0) 1 x1) 2 x2) 3 x3) 4 x4) 5 x5)))] t.heap ∧ va_K (dC, dI) vwCl [(cc0, .int)] t ∧ va_D (va_A [(h0, .inr (11, [.ref h1, .int 6])), (h1, .inl (cc0, 6, .inl (upd (upd (upd (upd (upd (upd (fun _ => 0) 0 x0) 1 x1) 2 x2) 3 x3) 4 x4) 5 x5)))] sz) [(h0, .inr (11, [.ref h1, .int 6])), (h1, .inl (cc0, 6, .inl (upd (upd (upd (upd (upd (upd (fun _ => 0) 0 x0) 1 x1) 2 x2) 3 x3) 4 x4) 5 x5)))]) (va_A [(h0, .inr (11, [.ref h1, .int 6])), (h1, .inl (cc0, 6, .inl (upd (upd (upd (upd (upd (upd (fun _ => 0) 0 x0) 1 x1) 2 x2) 3 x3) 4 x4) 5 x5)))] sz)) 0 0 (va_A [(h0, .inr (11, [.ref h1, .int 6])), (h1, .inl (cc0, 6, .inl (upd (upd (upd (upd (upd (upd (fun _ => 0) 0 x0) 1 x1) 2 x2) 3 x3) 4 x4) 5 x5)))] sz) := by
  refine Met.ofW (cc := cX4_get) (maxL := 2) (ret := (some .int)) (by decide) rfl ?_
  intro p e s m args below meth c s₁ B hml hv
  obtain ⟨rfl, hsz, hP, hK, hD0, hF⟩ := hv
  have hx := B.exec
  have hb := B.bytes
  have hr := B.returns
  have hts := atoms_spec (ws := wbX4_get) B.pre
  have hta : ∀ w ∈ wsALL, w.before _ s = true := fun w h => hts w (List.mem_cons_of_mem _ h)
  have hown : s.vm.findClass RX4 = some m.cls := findClass_of_methodNamed B.named
  have hlocks := B.notSynchronized
  subst hsz
  have hD := hD0.self (sz := s.heap.size)
  generalize hAe : va_A [(h0, .inr (11, [.ref h1, .int 6])), (h1, .inl (cc0, 6, .inl (upd (upd (upd (upd (upd (upd (fun _ => 0) 0 x0) 1 x1) 2 x2) 3 x3) 4 x4) 5 x5)))] s.heap.size = A at hD hF ⊢
  have hA : ∀ q : Nat, s.heap.size ≤ q → A q := fun q h => by rw [← hAe]; exact Or.inr h
  have hS : va_S A s.heap s.heap [] := va_S.rf
  have hP : va_P (dC, dI) vwCl [(h0, .inr (11, [.ref h1, .int 6])), (h1, .inl (cc0, 6, .inl (upd (upd (upd (upd (upd (upd (fun _ => 0) 0 x0) 1 x1) 2 x2) 3 x3) 4 x4) 5 x5)))] s.heap := hP
  have hl := lv_entry ([.ref h0, .int 0]) (n := 2) (Nat.le_of_ble_eq_true rfl)
  rw [lg_entry_eq]
  generalize (lg_sl ([.ref h0, .int 0]) ++ List.replicate (2 - (lg_sl ([.ref h0, .int 0])).length) Slot.unset).toArray = ls at hl ⊢
  have hl : lv_has ls 2 [(0, .ref h0), (1, .int 0)] := hl
  refine lv_iload_n hx hb dX4_get_0 rfl (lv_at hl 1 rfl) ?_
  refine lv_if_lt (tgt := 30) hx hb dX4_get_1 (by decide) (fun c1 => absurd c1 (by decide)) (fun c1 => ?_)
  refine lv_iload_n hx hb dX4_get_4 rfl (lv_at hl 1 rfl) ?_
  refine lv_aload_n hx hb dX4_get_5 rfl (lv_at hl 0 rfl) ?_
  refine va_get (D := (dC, dI)) (ci := 11) (v := .int 6) (C := RX4) (T := TX4) (N := 2) hx hb hta naX4 hown hK hP 0 rfl rfl 1 (by decide) (hta _ wm14) (fun _ h9 => h9) rfl dX4_get_6 ?_
  refine lv_icmp_ge (tgt := 30) hx hb dX4_get_9 (by decide) (fun c2 => absurd c2 (by decide)) (fun c2 => ?_)
  refine lv_iload_n hx hb dX4_get_12 rfl (lv_at hl 1 rfl) ?_
  refine lv_aload_n hx hb dX4_get_13 rfl (lv_at hl 0 rfl) ?_
  refine va_get (D := (dC, dI)) (ci := 11) (v := .ref h1) (C := RX4) (T := TX4) (N := 2) hx hb hta naX4 hown hK hP 0 rfl rfl 0 (by decide) (hta _ wm16) (fun _ h9 => h9) rfl dX4_get_14 ?_
  refine va_alen (v := 6) hx hb hK hP 1 0 rfl rfl (show Int32.ofNat 6 = 6 by decide) dX4_get_17 ?_
  refine lv_icmp_ge (tgt := 30) hx hb dX4_get_18 (by decide) (fun c3 => absurd c3 (by decide)) (fun c3 => ?_)
  refine lv_aload_n hx hb dX4_get_21 rfl (lv_at hl 0 rfl) ?_
  refine va_get (D := (dC, dI)) (ci := 11) (v := .ref h1) (C := RX4) (T := TX4) (N := 2) hx hb hta naX4 hown hK hP 0 rfl rfl 0 (by decide) (hta _ wm16) (fun _ h9 => h9) rfl dX4_get_22 ?_
  refine lv_iload_n hx hb dX4_get_25 rfl (lv_at hl 1 rfl) ?_
  refine va_iald hx hb hK hP 1 0 rfl rfl (vp_in_nI (n := 0) (by decide) (by decide)) dX4_get_26 ?_
  refine lv_topi (fun y4 ey4 => ?_)
  obtain rfl : x0 = y4 := ey4.symm
  refine lv_goto (tgt := 31) hx hb dX4_get_27 (by decide) ?_
  have hP9 := hP.sub (ws' := [(h0, .inr (11, [.ref h1, .int 6])), (h1, .inl (cc0, 6, .inl (upd (upd (upd (upd (upd (upd (fun _ => 0) 0 x0) 1 x1) 2 x2) 3 x3) 4 x4) 5 x5)))]) [0, 1] rfl
  have hD9 := hD.sub (ws' := [(h0, .inr (11, [.ref h1, .int 6])), (h1, .inl (cc0, 6, .inl (upd (upd (upd (upd (upd (upd (fun _ => 0) 0 x0) 1 x1) 2 x2) 3 x3) 4 x4) 5 x5)))]) [0, 1] (by decide) rfl
  have hK9 := hK.sub (tys' := [(cc0, .int)]) [0] rfl
  refine W.widen (k := 0) (n := 0) (Nat.le_of_ble_eq_true rfl) (Nat.le_of_ble_eq_true rfl) ?_
  exact W.iret (v := x0) hx hb hr (fun t ht hW => ⟨⟨_, (), rfl, rfl, by rw [ht]; exact hP9, va_K.moved hW.alike hK9, hD9⟩, hS.F ht⟩) hS.2.2 dX4_get_31
set_option maxHeartbeats 4000000 in
set_option maxRecDepth 100000 in
theorem kX4_init_8 (l : Launch) (dC : Nat → ClassId) (dI : Nat → Nat → Nat) (g : Nat → Nat) (sz : Nat) (h0 : Nat) (v0 : Value) (v1 : Value) : Met l yX4_init wbX4_init ({ frames := 1, cells := 1, slots := 2500, locals := 12 }) (va_Pc [.ref h0, .int 2500] (fun U => U.heap.size = sz ∧ va_P (dC, dI) vwCl [(h0, .inr (11, [v0, v1]))] U.heap ∧ va_K (dC, dI) vwCl [] U ∧ va_D (fun _ => True) [(h0, .inr (11, [v0, v1]))] ∧ ns_F g (va_A [(h0, .inr (11, [v0, v1]))] sz) U U.heap)) (va_Qv (fun _ : Unit => True) (fun _ t => ∃ k0 : Nat, ∃ kc1 : ClassId, va_P (dC, dI) vwCl [(h0, .inr (11, [.ref k0, .int 0])), (k0, .inl (kc1, 2500, .inl (fun _ => 0)))] t.heap ∧ va_K (dC, dI) vwCl [(kc1, .int)] t ∧ va_D (va_A [(h0, .inr (11, [v0, v1]))] sz) [(h0, .inr (11, [.ref k0, .int 0])), (k0, .inl (kc1, 2500, .inl (fun _ => 0)))]) (va_A [(h0, .inr (11, [v0, v1]))] sz)) 1 2500 (va_A [(h0, .inr (11, [v0, v1]))] sz) := by
  refine Met.ofW (cc := cX4_init) (maxL := 2) (ret := none) (by decide) rfl ?_
  intro p e s m args below meth c s₁ B hml hv
  obtain ⟨rfl, hsz, hP, hK, hD0, hF⟩ := hv
  have hx := B.exec
  have hb := B.bytes
  have hr := B.returns
  have hts := atoms_spec (ws := wbX4_init) B.pre
  have hta : ∀ w ∈ wsALL, w.before _ s = true := fun w h => hts w (List.mem_cons_of_mem _ h)
  have hown : s.vm.findClass RX4 = some m.cls := findClass_of_methodNamed B.named
  have hlocks := B.notSynchronized
  have hin : meth.name = "<init>" := (name_of_methodNamed B.named B.method).1
  subst hsz
  have hD := hD0.self (sz := s.heap.size)
  generalize hAe : va_A [(h0, .inr (11, [v0, v1]))] s.heap.size = A at hD hF ⊢
  have hA : ∀ q : Nat, s.heap.size ≤ q → A q := fun q h => by rw [← hAe]; exact Or.inr h
  have hS : va_S A s.heap s.heap [] := va_S.rf
  have hP : va_P (dC, dI) vwCl [(h0, .inr (11, [v0, v1]))] s.heap := hP
  have hl := lv_entry ([.ref h0, .int 2500]) (n := 2) (Nat.le_of_ble_eq_true rfl)
  rw [lg_entry_eq]
  generalize (lg_sl ([.ref h0, .int 2500]) ++ List.replicate (2 - (lg_sl ([.ref h0, .int 2500])).length) Slot.unset).toArray = ls at hl ⊢
  have hl : lv_has ls 2 [(0, .ref h0), (1, .int 2500)] := hl
  refine lv_aload_n hx hb dX4_init_0 rfl (lv_at hl 0 rfl) ?_
  refine W.objInit hx hb hown (hta _ wm13) (hta _ wm4) (hta _ wm5) rfl (by rw [hml]; exact hl.1) rfl dX4_init_1 (Nat.le_of_ble_eq_true rfl) (Nat.le_of_ble_eq_true rfl) ?_
  refine W.eq (g2 := F0 m 4 ls []) rfl ?_
  refine lv_aload_n hx hb dX4_init_4 rfl (lv_at hl 0 rfl) ?_
  refine lv_iconst (v := 0) hx hb dX4_init_5 (by decide) ?_
  refine va_put (D := (dC, dI)) (ci := 11) (v := .int 0) (ty := .int) (C := RX4) (T := TX4) (N := 2) hx hb hta naX4 tyX4 tyX4_ok nmX4 hown hK hP hD hS 0 rfl rfl 1 (by decide) (hta _ wm14) (fun _ h9 => h9) rfl (by decide +kernel) rfl rfl (Nat.le_of_ble_eq_true rfl) dX4_init_6 (fun H locs hP hD hS => ?_)
  have hP : va_P (dC, dI) vwCl [(h0, .inr (11, [v0, .int 0]))] H := hP
  have hD : va_D A [(h0, .inr (11, [v0, .int 0]))] := hD
  refine lv_aload_n hx hb dX4_init_9 rfl (lv_at hl 0 rfl) ?_
  refine lv_iload_n hx hb dX4_init_10 rfl (lv_at hl 1 rfl) ?_
  refine lv_if_le (tgt := 18) hx hb dX4_init_11 (by decide) (fun c1 => absurd c1 (by decide)) (fun c1 => ?_)
  refine lv_iload_n hx hb dX4_init_14 rfl (lv_at hl 1 rfl) ?_
  refine lv_goto (tgt := 19) hx hb dX4_init_15 (by decide) ?_
  refine va_newa (atype := .int) hx hb (hta _ wm15) rfl hK hP hD hS hA (N' := 2500) (a0 := (2500, .inl (fun _ => 0))) (fun _ => rfl) (by decide) (by decide) (Nat.le_of_ble_eq_true rfl) (Nat.le_of_ble_eq_true rfl) (Nat.le_of_ble_eq_true rfl) dX4_init_19 (fun q2 cyq2 H hK hP hD hS => ?_)
  have hP : va_P (dC, dI) vwCl [(h0, .inr (11, [v0, .int 0])), (q2, .inl (cyq2, 2500, .inl (fun _ => 0)))] H := hP
  have hD : va_D A [(h0, .inr (11, [v0, .int 0])), (q2, .inl (cyq2, 2500, .inl (fun _ => 0)))] := hD
  have hK : va_K (dC, dI) vwCl [(cyq2, .int)] s := hK
  refine W.widen (k := 1) (n := 2500) (Nat.le_of_ble_eq_true rfl) (Nat.le_of_ble_eq_true rfl) ?_
  refine va_putF (D := (dC, dI)) (ci := 11) (v := .ref q2) (ty := .array (.int)) (C := RX4) (T := TX4) (N := 2) hx hb hta naX4 tyX4 tyX4_ok nmX4 hown hK hP hD hS 0 rfl rfl 0 (by decide) (hta _ wm16) (fun _ h9 => h9) rfl hin rfl (by decide +kernel) rfl rfl (Nat.le_of_ble_eq_true rfl) dX4_init_21 (fun H locs hP hD hS => ?_)
  have hP : va_P (dC, dI) vwCl [(h0, .inr (11, [.ref q2, .int 0])), (q2, .inl (cyq2, 2500, .inl (fun _ => 0)))] H := hP
  have hD : va_D A [(h0, .inr (11, [.ref q2, .int 0])), (q2, .inl (cyq2, 2500, .inl (fun _ => 0)))] := hD
  have hP9 := hP.sub (ws' := [(h0, .inr (11, [.ref q2, .int 0])), (q2, .inl (cyq2, 2500, .inl (fun _ => 0)))]) [0, 1] rfl
  have hD9 := hD.sub (ws' := [(h0, .inr (11, [.ref q2, .int 0])), (q2, .inl (cyq2, 2500, .inl (fun _ => 0)))]) [0, 1] (by decide) rfl
  have hK9 := hK.sub (tys' := [(cyq2, .int)]) [0] rfl
  refine W.widen (k := 1) (n := 2500) (Nat.le_of_ble_eq_true rfl) (Nat.le_of_ble_eq_true rfl) ?_
  exact W.vret hx hb hr (fun t ht hW => ⟨⟨(), rfl, trivial, q2, cyq2, by rw [ht]; exact hP9, va_K.moved hW.alike hK9, hD9⟩, hS.F ht⟩) hS.2.2 dX4_init_24
set_option maxHeartbeats 4000000 in
set_option maxRecDepth 100000 in
theorem kX4_cut_10 (l : Launch) (dC : Nat → ClassId) (dI : Nat → Nat → Nat) (g : Nat → Nat) (sz : Nat) (h0 : Nat) (x0 : Int32) (v0 : Value) (ex0 : (0 : Int) ≤ x0.toInt ∧ x0.toInt ≤ (5 : Int)) : Met l yX4_cut wbX4_cut ({ frames := 0, cells := 0, slots := 0, locals := 0 }) (va_Pc [.ref h0, .int x0] (fun U => U.heap.size = sz ∧ va_P (dC, dI) vwCl [(h0, .inr (11, [v0, .int x0]))] U.heap ∧ va_K (dC, dI) vwCl [] U ∧ va_D (fun _ => True) [(h0, .inr (11, [v0, .int x0]))] ∧ ns_F g (va_A [(h0, .inr (11, [v0, .int x0]))] sz) U U.heap)) (va_Qv (fun _ : Unit => True) (fun _ t => va_P (dC, dI) vwCl [(h0, .inr (11, [v0, .int (ns_cut x0 x0)]))] t.heap ∧ va_K (dC, dI) vwCl [] t ∧ va_D (va_A [(h0, .inr (11, [v0, .int x0]))] sz) [(h0, .inr (11, [v0, .int (ns_cut x0 x0)]))]) (va_A [(h0, .inr (11, [v0, .int x0]))] sz)) 0 0 (va_A [(h0, .inr (11, [v0, .int x0]))] sz) := by
  refine Met.ofW (cc := cX4_cut) (maxL := 2) (ret := none) (by decide) rfl ?_
  intro p e s m args below meth c s₁ B hml hv
  obtain ⟨rfl, hsz, hP, hK, hD0, hF⟩ := hv
  have hx := B.exec
  have hb := B.bytes
  have hr := B.returns
  have hts := atoms_spec (ws := wbX4_cut) B.pre
  have hta : ∀ w ∈ wsALL, w.before _ s = true := fun w h => hts w (List.mem_cons_of_mem _ h)
  have hown : s.vm.findClass RX4 = some m.cls := findClass_of_methodNamed B.named
  have hlocks := B.notSynchronized
  subst hsz
  have hD := hD0.self (sz := s.heap.size)
  generalize hAe : va_A [(h0, .inr (11, [v0, .int x0]))] s.heap.size = A at hD hF ⊢
  have hA : ∀ q : Nat, s.heap.size ≤ q → A q := fun q h => by rw [← hAe]; exact Or.inr h
  have hS : va_S A s.heap s.heap [] := va_S.rf
  have hP : va_P (dC, dI) vwCl [(h0, .inr (11, [v0, .int x0]))] s.heap := hP
  have hl := lv_entry ([.ref h0, .int x0]) (n := 2) (Nat.le_of_ble_eq_true rfl)
  rw [lg_entry_eq]
  generalize (lg_sl ([.ref h0, .int x0]) ++ List.replicate (2 - (lg_sl ([.ref h0, .int x0])).length) Slot.unset).toArray = ls at hl ⊢
  have hl : lv_has ls 2 [(0, .ref h0), (1, .int x0)] := hl
  refine lv_iload_n hx hb dX4_cut_0 rfl (lv_at hl 1 rfl) ?_
  refine lv_if_lt (tgt := 17) hx hb dX4_cut_1 (by decide) (fun c1 => absurd c1 (fun z => absurd (show x0.toInt < (0 : Int) from Int32.lt_iff_toInt_lt.mp z) (by omega))) (fun c1 => ?_)
  refine lv_iload_n hx hb dX4_cut_4 rfl (lv_at hl 1 rfl) ?_
  refine lv_aload_n hx hb dX4_cut_5 rfl (lv_at hl 0 rfl) ?_
  refine va_get (D := (dC, dI)) (ci := 11) (v := .int x0) (C := RX4) (T := TX4) (N := 2) hx hb hta naX4 hown hK hP 0 rfl rfl 1 (by decide) (hta _ wm14) (fun _ h9 => h9) rfl dX4_cut_6 ?_
  refine lv_icmp_ge (tgt := 17) hx hb dX4_cut_9 (by decide) (fun c2 => ?_) (fun c2 => ?_)
  · have ec2 : x0.toInt ≤ x0.toInt := Int32.le_iff_toInt_le.mp c2
    have w3 : x0 = (ns_cut x0 x0) := (by unfold ns_cut; (repeat' split) <;> first | rfl | (exfalso; omega))
    have hP : va_P (dC, dI) vwCl [(h0, .inr (11, [v0, .int (ns_cut x0 x0)]))] s.heap := by rw [← w3]; exact hP
    have hD : va_D A [(h0, .inr (11, [v0, .int (ns_cut x0 x0)]))] := by rw [← w3]; exact hD
    have hP9 := hP.sub (ws' := [(h0, .inr (11, [v0, .int (ns_cut x0 x0)]))]) [0] rfl
    have hD9 := hD.sub (ws' := [(h0, .inr (11, [v0, .int (ns_cut x0 x0)]))]) [0] (by decide) rfl
    have hK9 := hK.sub (tys' := []) [] rfl
    refine W.widen (k := 0) (n := 0) (Nat.le_of_ble_eq_true rfl) (Nat.le_of_ble_eq_true rfl) ?_
    exact W.vret hx hb hr (fun t ht hW => ⟨⟨(), rfl, trivial, by rw [ht]; exact hP9, va_K.moved hW.alike hK9, hD9⟩, hS.F ht⟩) hS.2.2 dX4_cut_17
  · have ec2 : ¬ x0.toInt ≤ x0.toInt := fun z => c2 (Int32.le_iff_toInt_le.mpr z)
    refine lv_aload_n hx hb dX4_cut_12 rfl (lv_at hl 0 rfl) ?_
    refine lv_iload_n hx hb dX4_cut_13 rfl (lv_at hl 1 rfl) ?_
    refine va_put (D := (dC, dI)) (ci := 11) (v := .int x0) (ty := .int) (C := RX4) (T := TX4) (N := 2) hx hb hta naX4 tyX4 tyX4_ok nmX4 hown hK hP hD hS 0 rfl rfl 1 (by decide) (hta _ wm14) (fun _ h9 => h9) rfl (by decide +kernel) rfl rfl (Nat.le_of_ble_eq_true rfl) dX4_cut_14 (fun H locs hP hD hS => ?_)
    have hP : va_P (dC, dI) vwCl [(h0, .inr (11, [v0, .int x0]))] H := hP
    have hD : va_D A [(h0, .inr (11, [v0, .int x0]))] := hD
    have w4 : x0 = (ns_cut x0 x0) := (by unfold ns_cut; (repeat' split) <;> first | rfl | (exfalso; omega))
    have hP : va_P (dC, dI) vwCl [(h0, .inr (11, [v0, .int (ns_cut x0 x0)]))] H := by rw [← w4]; exact hP
    have hD : va_D A [(h0, .inr (11, [v0, .int (ns_cut x0 x0)]))] := by rw [← w4]; exact hD
    have hP9 := hP.sub (ws' := [(h0, .inr (11, [v0, .int (ns_cut x0 x0)]))]) [0] rfl
    have hD9 := hD.sub (ws' := [(h0, .inr (11, [v0, .int (ns_cut x0 x0)]))]) [0] (by decide) rfl
    have hK9 := hK.sub (tys' := []) [] rfl
    refine W.widen (k := 0) (n := 0) (Nat.le_of_ble_eq_true rfl) (Nat.le_of_ble_eq_true rfl) ?_
    exact W.vret hx hb hr (fun t ht hW => ⟨⟨(), rfl, trivial, by rw [ht]; exact hP9, va_K.moved hW.alike hK9, hD9⟩, hS.F ht⟩) hS.2.2 dX4_cut_17
set_option maxHeartbeats 4000000 in
set_option maxRecDepth 100000 in
theorem kJ5_ensureCapacityInternal_d00df_7 (l : Launch) (dC : Nat → ClassId) (dI : Nat → Nat → Nat) (g : Nat → Nat) (sz : Nat) (h0 : Nat) (h1 : Nat) (v0 : Value) (v1 : Value) (cc0 : ClassId) (f0 : Nat → Int32) (hf0 : sb_Fit f0) : Met l yJ5_ensureCapacityInternal_d00df wbJ5_ensureCapacityInternal_d00df ({ frames := 0, cells := 0, slots := 0, locals := 0 }) (va_Pc [.ref h0, .int 7] (fun U => U.heap.size = sz ∧ va_P (dC, dI) vwCl [(h0, .inr (1, [.ref h1, .int 0, v0, v1])), (h1, .inl (cc0, 16, .inl f0))] U.heap ∧ va_K (dC, dI) vwCl [(cc0, .byte)] U ∧ va_D (fun _ => True) [(h0, .inr (1, [.ref h1, .int 0, v0, v1])), (h1, .inl (cc0, 16, .inl f0))] ∧ ns_F g (va_A [(h0, .inr (1, [.ref h1, .int 0, v0, v1])), (h1, .inl (cc0, 16, .inl f0))] sz) U U.heap)) (va_Qv (fun _ : Unit => True) (fun _ t => va_P (dC, dI) vwCl [(h0, .inr (1, [.ref h1, .int 0, v0, v1])), (h1, .inl (cc0, 16, .inl f0))] t.heap ∧ va_K (dC, dI) vwCl [(cc0, .byte)] t ∧ va_D (va_A [(h0, .inr (1, [.ref h1, .int 0, v0, v1])), (h1, .inl (cc0, 16, .inl f0))] sz) [(h0, .inr (1, [.ref h1, .int 0, v0, v1])), (h1, .inl (cc0, 16, .inl f0))]) (va_A [(h0, .inr (1, [.ref h1, .int 0, v0, v1])), (h1, .inl (cc0, 16, .inl f0))] sz)) 0 0 (va_A [(h0, .inr (1, [.ref h1, .int 0, v0, v1])), (h1, .inl (cc0, 16, .inl f0))] sz) := by
  refine Met.ofW (cc := cJ5_ensureCapacityInternal_d00df) (maxL := 3) (ret := none) (by decide) rfl ?_
  intro p e s m args below meth c s₁ B hml hv
  obtain ⟨rfl, hsz, hP, hK, hD0, hF⟩ := hv
  have hx := B.exec
  have hb := B.bytes
  have hr := B.returns
  have hts := atoms_spec (ws := wbJ5_ensureCapacityInternal_d00df) B.pre
  have hta : ∀ w ∈ wsALL, w.before _ s = true := fun w h => hts w (List.mem_cons_of_mem _ h)
  have hown : s.vm.findClass RJ5 = some m.cls := findClass_of_methodNamed B.named
  have hlocks := B.notSynchronized
  subst hsz
  have hD := hD0.self (sz := s.heap.size)
  generalize hAe : va_A [(h0, .inr (1, [.ref h1, .int 0, v0, v1])), (h1, .inl (cc0, 16, .inl f0))] s.heap.size = A at hD hF ⊢
  have hA : ∀ q : Nat, s.heap.size ≤ q → A q := fun q h => by rw [← hAe]; exact Or.inr h
  have hS : va_S A s.heap s.heap [] := va_S.rf
  have hP : va_P (dC, dI) vwCl [(h0, .inr (1, [.ref h1, .int 0, v0, v1])), (h1, .inl (cc0, 16, .inl f0))] s.heap := hP
  have hl := lv_entry ([.ref h0, .int 7]) (n := 3) (Nat.le_of_ble_eq_true rfl)
  rw [lg_entry_eq]
  generalize (lg_sl ([.ref h0, .int 7]) ++ List.replicate (3 - (lg_sl ([.ref h0, .int 7])).length) Slot.unset).toArray = ls at hl ⊢
  have hl : lv_has ls 3 [(0, .ref h0), (1, .int 7)] := hl
  refine lv_aload_n hx hb dJ5_ensureCapacityInternal_d00df_0 rfl (lv_at hl 0 rfl) ?_
  refine va_get (D := (dC, dI)) (ci := 1) (v := .ref h1) (C := RJ4) (T := TJ4) (N := 4) hx hb hta naJ4 hown hK hP 0 rfl rfl 0 (by decide) (hta _ wm141) (fun _ h9 => h9) rfl dJ5_ensureCapacityInternal_d00df_1 ?_
  refine va_alen (v := 16) hx hb hK hP 1 0 rfl rfl (show Int32.ofNat 16 = 16 by decide) dJ5_ensureCapacityInternal_d00df_4 ?_
  refine lv_aload_n hx hb dJ5_ensureCapacityInternal_d00df_5 rfl (lv_at hl 0 rfl) ?_
  refine va_get (D := (dC, dI)) (ci := 1) (v := .int 0) (C := RJ4) (T := TJ4) (N := 4) hx hb hta naJ4 hown hK hP 0 rfl rfl 1 (by decide) (hta _ wm142) (fun _ h9 => h9) rfl dJ5_ensureCapacityInternal_d00df_6 ?_
  refine lv_ishr hx hb dJ5_ensureCapacityInternal_d00df_9 ?_
  refine lv_topi (fun y1 ey1 => ?_)
  obtain rfl : y1 = 16 := ey1.trans (by decide)
  refine lv_istore_n (lv' := [(2, .int 16), (0, .ref h0), (1, .int 7)]) hx hb dJ5_ensureCapacityInternal_d00df_10 rfl hl (by decide) rfl (fun ls hl => ?_)
  refine lv_iload_n hx hb dJ5_ensureCapacityInternal_d00df_11 rfl (lv_at hl 2 rfl) ?_
  refine lv_iload_n hx hb dJ5_ensureCapacityInternal_d00df_12 rfl (lv_at hl 0 rfl) ?_
  refine lv_isub hx hb dJ5_ensureCapacityInternal_d00df_13 ?_
  refine lv_topi (fun y2 ey2 => ?_)
  obtain rfl : y2 = (-9) := ey2.trans (by decide)
  refine lv_if_le (tgt := 38) hx hb dJ5_ensureCapacityInternal_d00df_14 (by decide) (fun c3 => ?_) (fun c3 => absurd (by decide) c3)
  have hP9 := hP.sub (ws' := [(h0, .inr (1, [.ref h1, .int 0, v0, v1])), (h1, .inl (cc0, 16, .inl f0))]) [0, 1] rfl
  have hD9 := hD.sub (ws' := [(h0, .inr (1, [.ref h1, .int 0, v0, v1])), (h1, .inl (cc0, 16, .inl f0))]) [0, 1] (by decide) rfl
  have hK9 := hK.sub (tys' := [(cc0, .byte)]) [0] rfl
  refine W.widen (k := 0) (n := 0) (Nat.le_of_ble_eq_true rfl) (Nat.le_of_ble_eq_true rfl) ?_
  exact W.vret hx hb hr (fun t ht hW => ⟨⟨(), rfl, trivial, by rw [ht]; exact hP9, va_K.moved hW.alike hK9, hD9⟩, hS.F ht⟩) hS.2.2 dJ5_ensureCapacityInternal_d00df_38
set_option maxHeartbeats 4000000 in
set_option maxRecDepth 100000 in
theorem kX4_copy (l : Launch) (dC : Nat → ClassId) (dI : Nat → Nat → Nat) (g : Nat → Nat) (sz : Nat) (h0 : Nat) (h1 : Nat) (v0 : Value) (v1 : Value) (v2 : Value) : Met l yX4_copy wbX4_copy ({ frames := 0, cells := 0, slots := 0, locals := 0 }) (va_Pc [.ref h0, .ref h1] (fun U => U.heap.size = sz ∧ va_P (dC, dI) vwCl [(h0, .inr (11, [v0, v1])), (h1, .inr (11, [v2, .int 0]))] U.heap ∧ va_K (dC, dI) vwCl [] U ∧ va_D (fun _ => True) [(h0, .inr (11, [v0, v1])), (h1, .inr (11, [v2, .int 0]))] ∧ ns_F g (va_A [(h0, .inr (11, [v0, v1])), (h1, .inr (11, [v2, .int 0]))] sz) U U.heap)) (va_Qv (fun _ : Unit => True) (fun _ t => va_P (dC, dI) vwCl [(h0, .inr (11, [v0, .int 0])), (h1, .inr (11, [v2, .int 0]))] t.heap ∧ va_K (dC, dI) vwCl [] t ∧ va_D (va_A [(h0, .inr (11, [v0, v1])), (h1, .inr (11, [v2, .int 0]))] sz) [(h0, .inr (11, [v0, .int 0])), (h1, .inr (11, [v2, .int 0]))]) (va_A [(h0, .inr (11, [v0, v1])), (h1, .inr (11, [v2, .int 0]))] sz)) 0 0 (va_A [(h0, .inr (11, [v0, v1])), (h1, .inr (11, [v2, .int 0]))] sz) := by
  refine Met.ofW (cc := cX4_copy) (maxL := 3) (ret := none) (by decide) rfl ?_
  intro p e s m args below meth c s₁ B hml hv
  obtain ⟨rfl, hsz, hP, hK, hD0, hF⟩ := hv
  have hx := B.exec
  have hb := B.bytes
  have hr := B.returns
  have hts := atoms_spec (ws := wbX4_copy) B.pre
  have hta : ∀ w ∈ wsALL, w.before _ s = true := fun w h => hts w (List.mem_cons_of_mem _ h)
  have hown : s.vm.findClass RX4 = some m.cls := findClass_of_methodNamed B.named
  have hlocks := B.notSynchronized
  subst hsz
  have hD := hD0.self (sz := s.heap.size)
  generalize hAe : va_A [(h0, .inr (11, [v0, v1])), (h1, .inr (11, [v2, .int 0]))] s.heap.size = A at hD hF ⊢
  have hA : ∀ q : Nat, s.heap.size ≤ q → A q := fun q h => by rw [← hAe]; exact Or.inr h
  have hS : va_S A s.heap s.heap [] := va_S.rf
  have hP : va_P (dC, dI) vwCl [(h0, .inr (11, [v0, v1])), (h1, .inr (11, [v2, .int 0]))] s.heap := hP
  have hl := lv_entry ([.ref h0, .ref h1]) (n := 3) (Nat.le_of_ble_eq_true rfl)
  rw [lg_entry_eq]
  generalize (lg_sl ([.ref h0, .ref h1]) ++ List.replicate (3 - (lg_sl ([.ref h0, .ref h1])).length) Slot.unset).toArray = ls at hl ⊢
  have hl : lv_has ls 3 [(0, .ref h0), (1, .ref h1)] := hl
  refine lv_aload_n hx hb dX4_copy_0 rfl (lv_at hl 0 rfl) ?_
  refine lv_iconst (v := 0) hx hb dX4_copy_1 (by decide) ?_
  refine va_put (D := (dC, dI)) (ci := 11) (v := .int 0) (ty := .int) (C := RX4) (T := TX4) (N := 2) hx hb hta naX4 tyX4 tyX4_ok nmX4 hown hK hP hD hS 0 rfl rfl 1 (by decide) (hta _ wm14) (fun _ h9 => h9) rfl (by decide +kernel) rfl rfl (Nat.le_of_ble_eq_true rfl) dX4_copy_2 (fun H locs hP hD hS => ?_)
  have hP : va_P (dC, dI) vwCl [(h0, .inr (11, [v0, .int 0])), (h1, .inr (11, [v2, .int 0]))] H := hP
  have hD : va_D A [(h0, .inr (11, [v0, .int 0])), (h1, .inr (11, [v2, .int 0]))] := hD
  refine lv_iconst (v := 0) hx hb dX4_copy_5 (by decide) ?_
  refine lv_istore_n (lv' := [(2, .int 0), (0, .ref h0), (1, .ref h1)]) hx hb dX4_copy_6 rfl hl (by decide) rfl (fun ls hl => ?_)
  refine lv_iload_n hx hb dX4_copy_7 rfl (lv_at hl 0 rfl) ?_
  refine lv_aload_n hx hb dX4_copy_8 rfl (lv_at hl 2 rfl) ?_
  refine va_get (D := (dC, dI)) (ci := 11) (v := .int 0) (C := RX4) (T := TX4) (N := 2) hx hb hta naX4 hown hK hP 1 rfl rfl 1 (by decide) (hta _ wm14) (fun _ h9 => h9) rfl dX4_copy_9 ?_
  refine lv_icmp_ge (tgt := 30) hx hb dX4_copy_12 (by decide) (fun c1 => ?_) (fun c1 => absurd (by decide) c1)
  have hP9 := hP.sub (ws' := [(h0, .inr (11, [v0, .int 0])), (h1, .inr (11, [v2, .int 0]))]) [0, 1] rfl
  have hD9 := hD.sub (ws' := [(h0, .inr (11, [v0, .int 0])), (h1, .inr (11, [v2, .int 0]))]) [0, 1] (by decide) rfl
  have hK9 := hK.sub (tys' := []) [] rfl
  refine W.widen (k := 0) (n := 0) (Nat.le_of_ble_eq_true rfl) (Nat.le_of_ble_eq_true rfl) ?_
  exact W.vret hx hb hr (fun t ht hW => ⟨⟨(), rfl, trivial, by rw [ht]; exact hP9, va_K.moved hW.alike hK9, hD9⟩, hS.F ht⟩) hS.2.2 dX4_copy_30
set_option maxHeartbeats 4000000 in
set_option maxRecDepth 100000 in
theorem kX9_word_26 (l : Launch) (dC : Nat → ClassId) (dI : Nat → Nat → Nat) (g : Nat → Nat) (sz : Nat) (h0 : Nat) (x0 : Int32) (ex0 : (26 : Int) ≤ x0.toInt ∧ x0.toInt ≤ (2147483647 : Int)) (hlt : l.stackTraces = false) : vx_Met l yX9_word wbX9_word ({ frames := 6, cells := 1, slots := 6, locals := 82 }) (va_Pc [.ref h0, .int x0, .int 3] (fun U => U.heap.size = sz ∧ va_P (dC, dI) vwCl [] U.heap ∧ va_K (dC, dI) vwCl [] U ∧ va_D (fun _ => True) [] ∧ ns_F g (va_A [] sz) U U.heap)) (va_Qv (fun _ : Unit => False) (fun _ _ => True) (va_A [] sz)) (vx_X (fun _ : Unit => True) (fun E _ _ => E = "java/lang/IllegalArgumentException") (va_A [] sz)) 1 6 (va_A [] sz) := by
  refine vx_ofW (cc := cX9_word) (maxL := 4) (ret := (some .int)) (by decide) rfl ?_
  intro p e s m args below meth c s₁ B hml hnox hv
  obtain ⟨rfl, hsz, hP, hK, hD0, hF⟩ := hv
  have hx := B.exec
  have hb := B.bytes
  have hr := B.returns
  have hts := atoms_spec (ws := wbX9_word) B.pre
  have hta : ∀ w ∈ wsALL, w.before _ s = true := fun w h => hts w (List.mem_cons_of_mem _ h)
  have hown : s.vm.findClass RX9 = some m.cls := findClass_of_methodNamed B.named
  have hlocks := B.notSynchronized
  subst hsz
  have hD := hD0.self (sz := s.heap.size)
  generalize hAe : va_A [] s.heap.size = A at hD hF ⊢
  have hA : ∀ q : Nat, s.heap.size ≤ q → A q := fun q h => by rw [← hAe]; exact Or.inr h
  have hS : va_S A s.heap s.heap [] := va_S.rf
  have hP : va_P (dC, dI) vwCl [] s.heap := hP
  have hl := lv_entry ([.ref h0, .int x0, .int 3]) (n := 4) (Nat.le_of_ble_eq_true rfl)
  rw [lg_entry_eq]
  generalize (lg_sl ([.ref h0, .int x0, .int 3]) ++ List.replicate (4 - (lg_sl ([.ref h0, .int x0, .int 3])).length) Slot.unset).toArray = ls at hl ⊢
  have hl : lv_has ls 4 [(0, .ref h0), (1, .int x0), (2, .int 3)] := hl
  refine lv_iload_n hx hb dX9_word_0 rfl (lv_at hl 1 rfl) ?_
  refine lv_if_lt (tgt := 10) hx hb dX9_word_1 (by decide) (fun c1 => absurd c1 (fun z => absurd (show x0.toInt < (0 : Int) from Int32.lt_iff_toInt_lt.mp z) (by omega))) (fun c1 => ?_)
  refine lv_iload_n hx hb dX9_word_4 rfl (lv_at hl 1 rfl) ?_
  refine lv_bipush (v := 25) hx hb dX9_word_5 (by decide) ?_
  refine lv_icmp_le (tgt := 20) hx hb dX9_word_7 (by decide) (fun c2 => absurd c2 (fun z => absurd (show x0.toInt ≤ (25 : Int) from Int32.le_iff_toInt_le.mp z) (by omega))) (fun c2 => ?_)
  exact vx_throwS hx hb hlt (text := "letter is 0 to 25") (sa := (g 10)) (names := ["java/lang/RuntimeException", "java/lang/Exception"]) hown (by decide) (by decide) (hta _ wm225) (hta _ wm226) (ns_f21 hF) (vx_hat (B := [.declares ⟨"java/lang/RuntimeException", "<init>", "(Ljava/lang/String;)V"⟩, .declares ⟨"java/lang/Exception", "<init>", "(Ljava/lang/String;)V"⟩, .declares ⟨"java/lang/Throwable", "<init>", "(Ljava/lang/String;)V"⟩, .castable "java/lang/IllegalArgumentException" "java/lang/IllegalArgumentException"]) (fun w9 h9 => hta w9 (vm0 w9 h9)) (by decide +kernel) (vx_c (va_Nw.use rfl (ns_f12 hF)) (vx_c (va_Nw.use rfl (ns_f13 hF)) (vx_c (va_Nw.use rfl (ns_f14 hF)) (vx_c (va_Nw.use rfl (ns_f11 hF)) vx_n))))) (by decide +kernel) (ns_f18 hF) (ns_f19 hF) hS (by rw [hml]; exact hl.1) dX9_word_10 dX9_word_13 dX9_word_14 dX9_word_16 dX9_word_19 (fun x hx => (hnox x hx).elim) (Nat.le_of_ble_eq_true rfl) (Nat.le_of_ble_eq_true rfl) (Nat.le_of_ble_eq_true rfl) (Nat.le_of_ble_eq_true rfl) hlocks (fun t9 hal hsz9 hk9 => ⟨(), trivial, rfl, Nat.le_trans hS.1 hsz9, fun q hq1 hq2 => (hk9 q (Nat.lt_of_lt_of_le hq1 hS.1)).trans (hS.2.1 q hq1 hq2)⟩) hS.2.2 (Nat.le_of_ble_eq_true rfl) (Nat.le_of_ble_eq_true rfl)
set_option maxHeartbeats 4000000 in
set_option maxRecDepth 100000 in
theorem kX16_refuse_2 (l : Launch) (dC : Nat → ClassId) (dI : Nat → Nat → Nat) (g : Nat → Nat) (sz : Nat) (h0 : Nat) (v0 : Value) (v1 : Value) (v2 : Value) (v3 : Value) (v4 : Value) (v5 : Value) (v6 : Value) (v7 : Value) : Met l yX16_refuse wbX16_refuse ({ frames := 0, cells := 0, slots := 0, locals := 0 }) (va_Pc [.ref h0, .int 0, .int 1] (fun U => U.heap.size = sz ∧ va_P (dC, dI) vwCl [(h0, .inr (23, [.int 0, v0, v1, v2, v3, v4, v5, v6, v7]))] U.heap ∧ va_K (dC, dI) vwCl [] U ∧ va_D (fun _ => True) [(h0, .inr (23, [.int 0, v0, v1, v2, v3, v4, v5, v6, v7]))] ∧ ns_F g (va_A [(h0, .inr (23, [.int 0, v0, v1, v2, v3, v4, v5, v6, v7]))] sz) U U.heap)) (va_Qi (fun (r : Int32) (_ : Unit) => r = 0) (fun _ t => va_P (dC, dI) vwCl [(h0, .inr (23, [.int 0, v0, v1, v2, v3, v4, v5, v6, v7]))] t.heap ∧ va_K (dC, dI) vwCl [] t ∧ va_D (va_A [(h0, .inr (23, [.int 0, v0, v1, v2, v3, v4, v5, v6, v7]))] sz) [(h0, .inr (23, [.int 0, v0, v1, v2, v3, v4, v5, v6, v7]))]) (va_A [(h0, .inr (23, [.int 0, v0, v1, v2, v3, v4, v5, v6, v7]))] sz)) 0 0 (va_A [(h0, .inr (23, [.int 0, v0, v1, v2, v3, v4, v5, v6, v7]))] sz) := by
  refine Met.ofW (cc := cX16_refuse) (maxL := 3) (ret := (some .boolean)) (by decide) rfl ?_
  intro p e s m args below meth c s₁ B hml hv
  obtain ⟨rfl, hsz, hP, hK, hD0, hF⟩ := hv
  have hx := B.exec
  have hb := B.bytes
  have hr := B.returns
  have hts := atoms_spec (ws := wbX16_refuse) B.pre
  have hta : ∀ w ∈ wsALL, w.before _ s = true := fun w h => hts w (List.mem_cons_of_mem _ h)
  have hown : s.vm.findClass RX16 = some m.cls := findClass_of_methodNamed B.named
  have hlocks := B.notSynchronized
  subst hsz
  have hD := hD0.self (sz := s.heap.size)
  generalize hAe : va_A [(h0, .inr (23, [.int 0, v0, v1, v2, v3, v4, v5, v6, v7]))] s.heap.size = A at hD hF ⊢
  have hA : ∀ q : Nat, s.heap.size ≤ q → A q := fun q h => by rw [← hAe]; exact Or.inr h
  have hS : va_S A s.heap s.heap [] := va_S.rf
  have hP : va_P (dC, dI) vwCl [(h0, .inr (23, [.int 0, v0, v1, v2, v3, v4, v5, v6, v7]))] s.heap := hP
  have hl := lv_entry ([.ref h0, .int 0, .int 1]) (n := 3) (Nat.le_of_ble_eq_true rfl)
  rw [lg_entry_eq]
  generalize (lg_sl ([.ref h0, .int 0, .int 1]) ++ List.replicate (3 - (lg_sl ([.ref h0, .int 0, .int 1])).length) Slot.unset).toArray = ls at hl ⊢
  have hl : lv_has ls 3 [(0, .ref h0), (1, .int 0), (2, .int 1)] := hl
  refine lv_iload_n hx hb dX16_refuse_0 rfl (lv_at hl 1 rfl) ?_
  refine lv_if_eq (tgt := 16) hx hb dX16_refuse_1 (by decide) (fun c1 => ?_) (fun c1 => absurd (by decide) c1)
  refine lv_aload_n hx hb dX16_refuse_16 rfl (lv_at hl 0 rfl) ?_
  refine va_get (D := (dC, dI)) (ci := 23) (v := .int 0) (C := RX16) (T := TX16) (N := 9) hx hb hta naX16 hown hK hP 0 rfl rfl 0 (by decide) (hta _ wm234) (fun _ h9 => h9) rfl dX16_refuse_17 ?_
  refine lv_if_le (tgt := 27) hx hb dX16_refuse_20 (by decide) (fun c2 => ?_) (fun c2 => absurd (by decide) c2)
  refine lv_iconst (v := 0) hx hb dX16_refuse_27 (by decide) ?_
  have hP9 := hP.sub (ws' := [(h0, .inr (23, [.int 0, v0, v1, v2, v3, v4, v5, v6, v7]))]) [0] rfl
  have hD9 := hD.sub (ws' := [(h0, .inr (23, [.int 0, v0, v1, v2, v3, v4, v5, v6, v7]))]) [0] (by decide) rfl
  have hK9 := hK.sub (tys' := []) [] rfl
  refine W.widen (k := 0) (n := 0) (Nat.le_of_ble_eq_true rfl) (Nat.le_of_ble_eq_true rfl) ?_
  exact W.zret (v := 0) hx hb hr (by decide) (fun t ht hW => ⟨⟨_, (), rfl, rfl, by rw [ht]; exact hP9, va_K.moved hW.alike hK9, hD9⟩, hS.F ht⟩) hS.2.2 dX16_refuse_28
set_option maxHeartbeats 4000000 in
set_option maxRecDepth 100000 in
theorem kX16_said_4 (l : Launch) (dC : Nat → ClassId) (dI : Nat → Nat → Nat) (g : Nat → Nat) (sz : Nat) (x0 : Int32) (ex0 : (21 : Int) ≤ x0.toInt ∧ x0.toInt ≤ (21 : Int)) : Met l yX16_said wbX16_said ({ frames := 0, cells := 0, slots := 0, locals := 0 }) (va_Pc [.ref (g 34), .int x0] (fun U => U.heap.size = sz ∧ va_P (dC, dI) vwCl [] U.heap ∧ va_K (dC, dI) vwCl [] U ∧ va_D (fun _ => True) [] ∧ ns_F g (va_A [] sz) U U.heap)) (va_Qr (fun _ : Unit => True) (fun _ r t => r = (g 34) ∧ va_P (dC, dI) vwCl [] t.heap ∧ va_K (dC, dI) vwCl [] t ∧ va_D (va_A [] sz) []) (va_A [] sz)) 0 0 (va_A [] sz) := by
  refine Met.ofW (cc := cX16_said) (maxL := 2) (ret := (some (.object "java/lang/String"))) (by decide) rfl ?_
  intro p e s m args below meth c s₁ B hml hv
  obtain ⟨rfl, hsz, hP, hK, hD0, hF⟩ := hv
  have hx := B.exec
  have hb := B.bytes
  have hr := B.returns
  have hts := atoms_spec (ws := wbX16_said) B.pre
  have hta : ∀ w ∈ wsALL, w.before _ s = true := fun w h => hts w (List.mem_cons_of_mem _ h)
  have hown : s.vm.findClass RX16 = some m.cls := findClass_of_methodNamed B.named
  have hlocks := B.notSynchronized
  subst hsz
  have hD := hD0.self (sz := s.heap.size)
  generalize hAe : va_A [] s.heap.size = A at hD hF ⊢
  have hA : ∀ q : Nat, s.heap.size ≤ q → A q := fun q h => by rw [← hAe]; exact Or.inr h
  have hS : va_S A s.heap s.heap [] := va_S.rf
  have hP : va_P (dC, dI) vwCl [] s.heap := hP
  have hl := lv_entry ([.ref (g 34), .int x0]) (n := 2) (Nat.le_of_ble_eq_true rfl)
  rw [lg_entry_eq]
  generalize (lg_sl ([.ref (g 34), .int x0]) ++ List.replicate (2 - (lg_sl ([.ref (g 34), .int x0])).length) Slot.unset).toArray = ls at hl ⊢
  have hl : lv_has ls 2 [(0, .ref (g 34)), (1, .int x0)] := hl
  refine lv_iload_n hx hb dX16_said_0 rfl (lv_at hl 1 rfl) ?_
  refine lv_iconst (v := (-1)) hx hb dX16_said_1 (by decide) ?_
  refine lv_icmp_ne (tgt := 7) hx hb dX16_said_2 (by decide) (fun c1 => ?_) (fun c1 => absurd c1 (fun z => absurd (show x0.toInt = (-1 : Int) from congrArg Int32.toInt z) (by omega)))
  refine lv_iload_n hx hb dX16_said_7 rfl (lv_at hl 1 rfl) ?_
  refine lv_bipush (v := 20) hx hb dX16_said_8 (by decide) ?_
  refine lv_icmp_ge (tgt := 37) hx hb dX16_said_10 (by decide) (fun c2 => ?_) (fun c2 => absurd (show (20 : Int32) ≤ x0 from Int32.le_iff_toInt_le.mpr (show (20 : Int) ≤ x0.toInt by omega)) c2)
  refine lv_iload_n hx hb dX16_said_37 rfl (lv_at hl 1 rfl) ?_
  refine lv_bipush (v := 21) hx hb dX16_said_38 (by decide) ?_
  refine lv_icmp_eq (tgt := 50) hx hb dX16_said_40 (by decide) (fun c3 => ?_) (fun c3 => absurd (show x0 = (21 : Int32) from Int32.toInt_inj.mp (show x0.toInt = (21 : Int) by omega)) c3)
  refine va_ldcS hx hb hown (ns_f33 hF) dX16_said_50 ?_
  refine lv_goto (tgt := 66) hx hb dX16_said_52 (by decide) ?_
  have hP9 := hP.sub (ws' := []) [] rfl
  have hD9 := hD.sub (ws' := []) [] (by decide) rfl
  have hK9 := hK.sub (tys' := []) [] rfl
  refine W.widen (k := 0) (n := 0) (Nat.le_of_ble_eq_true rfl) (Nat.le_of_ble_eq_true rfl) ?_
  exact W.aret (v := .ref (g 34)) hx hb hr (by first | exact Or.inl ⟨_, rfl⟩ | exact Or.inr ⟨_, rfl⟩) (Or.inr ⟨_, rfl⟩) (fun t ht hW => ⟨⟨(), _, rfl, trivial, rfl, by rw [ht]; exact hP9, va_K.moved hW.alike hK9, hD9⟩, hS.F ht⟩) hS.2.2 dX16_said_66
set_option maxHeartbeats 4000000 in
set_option maxRecDepth 100000 in
theorem kX9_ofCode (l : Launch) (dC : Nat → ClassId) (dI : Nat → Nat → Nat) (g : Nat → Nat) (sz : Nat) (h0 : Nat) (x0 : Int32) (ex0 : (-2147483648 : Int) ≤ x0.toInt ∧ x0.toInt ≤ (-1 : Int)) (hlt : l.stackTraces = false) : vx_Met l yX9_ofCode wbX9_ofCode ({ frames := 6, cells := 1, slots := 6, locals := 82 }) (va_Pc [.ref h0, .int x0] (fun U => U.heap.size = sz ∧ va_P (dC, dI) vwCl [] U.heap ∧ va_K (dC, dI) vwCl [] U ∧ va_D (fun _ => True) [] ∧ ns_F g (va_A [] sz) U U.heap)) (va_Qv (fun _ : Unit => False) (fun _ _ => True) (va_A [] sz)) (vx_X (fun _ : Unit => True) (fun E _ _ => E = "java/lang/IllegalArgumentException") (va_A [] sz)) 1 6 (va_A [] sz) := by
  refine vx_ofW (cc := cX9_ofCode) (maxL := 2) (ret := (some .int)) (by decide) rfl ?_
  intro p e s m args below meth c s₁ B hml hnox hv
  obtain ⟨rfl, hsz, hP, hK, hD0, hF⟩ := hv
  have hx := B.exec
  have hb := B.bytes
  have hr := B.returns
  have hts := atoms_spec (ws := wbX9_ofCode) B.pre
  have hta : ∀ w ∈ wsALL, w.before _ s = true := fun w h => hts w (List.mem_cons_of_mem _ h)
  have hown : s.vm.findClass RX9 = some m.cls := findClass_of_methodNamed B.named
  have hlocks := B.notSynchronized
  subst hsz
  have hD := hD0.self (sz := s.heap.size)
  generalize hAe : va_A [] s.heap.size = A at hD hF ⊢
  have hA : ∀ q : Nat, s.heap.size ≤ q → A q := fun q h => by rw [← hAe]; exact Or.inr h
  have hS : va_S A s.heap s.heap [] := va_S.rf
  have hP : va_P (dC, dI) vwCl [] s.heap := hP
  have hl := lv_entry ([.ref h0, .int x0]) (n := 2) (Nat.le_of_ble_eq_true rfl)
  rw [lg_entry_eq]
  generalize (lg_sl ([.ref h0, .int x0]) ++ List.replicate (2 - (lg_sl ([.ref h0, .int x0])).length) Slot.unset).toArray = ls at hl ⊢
  have hl : lv_has ls 2 [(0, .ref h0), (1, .int x0)] := hl
  refine lv_iload_n hx hb dX9_ofCode_0 rfl (lv_at hl 1 rfl) ?_
  refine lv_if_lt (tgt := 10) hx hb dX9_ofCode_1 (by decide) (fun c1 => ?_) (fun c1 => absurd (show x0 < (0 : Int32) from Int32.lt_iff_toInt_lt.mpr (show x0.toInt < (0 : Int) by omega)) c1)
  exact vx_throwSW hx hb hlt (text := "what is 0 to 9") (sa := (g 22)) (names := ["java/lang/RuntimeException", "java/lang/Exception"]) hown (by decide) (by decide) (hta _ wm225) (hta _ wm226) (ns_f27 hF) (vx_hat (B := [.declares ⟨"java/lang/RuntimeException", "<init>", "(Ljava/lang/String;)V"⟩, .declares ⟨"java/lang/Exception", "<init>", "(Ljava/lang/String;)V"⟩, .declares ⟨"java/lang/Throwable", "<init>", "(Ljava/lang/String;)V"⟩, .castable "java/lang/IllegalArgumentException" "java/lang/IllegalArgumentException"]) (fun w9 h9 => hta w9 (vm0 w9 h9)) (by decide +kernel) (vx_c (va_Nw.use rfl (ns_f12 hF)) (vx_c (va_Nw.use rfl (ns_f13 hF)) (vx_c (va_Nw.use rfl (ns_f14 hF)) (vx_c (va_Nw.use rfl (ns_f11 hF)) vx_n))))) (by decide +kernel) (ns_f18 hF) (ns_f19 hF) hS (by rw [hml]; exact hl.1) dX9_ofCode_10 dX9_ofCode_13 dX9_ofCode_14 dX9_ofCode_17 dX9_ofCode_20 (fun x hx => (hnox x hx).elim) (Nat.le_of_ble_eq_true rfl) (Nat.le_of_ble_eq_true rfl) (Nat.le_of_ble_eq_true rfl) (Nat.le_of_ble_eq_true rfl) hlocks (fun t9 hal hsz9 hk9 => ⟨(), trivial, rfl, Nat.le_trans hS.1 hsz9, fun q hq1 hq2 => (hk9 q (Nat.lt_of_lt_of_le hq1 hS.1)).trans (hS.2.1 q hq1 hq2)⟩) hS.2.2 (Nat.le_of_ble_eq_true rfl) (Nat.le_of_ble_eq_true rfl)
set_option maxHeartbeats 4000000 in
set_option maxRecDepth 100000 in
theorem kJ3_checkFromToIndex_8c36e_4 (l : Launch) (dC : Nat → ClassId) (dI : Nat → Nat → Nat) (g : Nat → Nat) (sz : Nat)  : Met l yJ3_checkFromToIndex_8c36e wbJ3_checkFromToIndex_8c36e ({ frames := 0, cells := 0, slots := 0, locals := 0 }) (va_Pc [.int 0, .int 1, .int 2, .ref (g 1)] (fun U => U.heap.size = sz ∧ va_P (dC, dI) vwCl [] U.heap ∧ va_K (dC, dI) vwCl [] U ∧ va_D (fun _ => True) [] ∧ ns_F g (va_A [] sz) U U.heap)) (va_Qi (fun (r : Int32) (_ : Unit) => r = 0) (fun _ t => va_P (dC, dI) vwCl [] t.heap ∧ va_K (dC, dI) vwCl [] t ∧ va_D (va_A [] sz) []) (va_A [] sz)) 0 0 (va_A [] sz) := by
  refine Met.ofW (cc := cJ3_checkFromToIndex_8c36e) (maxL := 4) (ret := (some .int)) (by decide) rfl ?_
  intro p e s m args below meth c s₁ B hml hv
  obtain ⟨rfl, hsz, hP, hK, hD0, hF⟩ := hv
  have hx := B.exec
  have hb := B.bytes
  have hr := B.returns
  have hts := atoms_spec (ws := wbJ3_checkFromToIndex_8c36e) B.pre
  have hta : ∀ w ∈ wsALL, w.before _ s = true := fun w h => hts w (List.mem_cons_of_mem _ h)
  have hown : s.vm.findClass RJ3 = some m.cls := findClass_of_methodNamed B.named
  have hlocks := B.notSynchronized
  subst hsz
  have hD := hD0.self (sz := s.heap.size)
  generalize hAe : va_A [] s.heap.size = A at hD hF ⊢
  have hA : ∀ q : Nat, s.heap.size ≤ q → A q := fun q h => by rw [← hAe]; exact Or.inr h
  have hS : va_S A s.heap s.heap [] := va_S.rf
  have hP : va_P (dC, dI) vwCl [] s.heap := hP
  have hl := lv_entry ([.int 0, .int 1, .int 2, .ref (g 1)]) (n := 4) (Nat.le_of_ble_eq_true rfl)
  rw [lg_entry_eq]
  generalize (lg_sl ([.int 0, .int 1, .int 2, .ref (g 1)]) ++ List.replicate (4 - (lg_sl ([.int 0, .int 1, .int 2, .ref (g 1)])).length) Slot.unset).toArray = ls at hl ⊢
  have hl : lv_has ls 4 [(0, .int 0), (1, .int 1), (2, .int 2), (3, .ref (g 1))] := hl
  refine lv_iload_n hx hb dJ3_checkFromToIndex_8c36e_0 rfl (lv_at hl 0 rfl) ?_
  refine lv_if_lt (tgt := 14) hx hb dJ3_checkFromToIndex_8c36e_1 (by decide) (fun c1 => absurd c1 (by decide)) (fun c1 => ?_)
  refine lv_iload_n hx hb dJ3_checkFromToIndex_8c36e_4 rfl (lv_at hl 0 rfl) ?_
  refine lv_iload_n hx hb dJ3_checkFromToIndex_8c36e_5 rfl (lv_at hl 1 rfl) ?_
  refine lv_icmp_gt (tgt := 14) hx hb dJ3_checkFromToIndex_8c36e_6 (by decide) (fun c2 => absurd c2 (by decide)) (fun c2 => ?_)
  refine lv_iload_n hx hb dJ3_checkFromToIndex_8c36e_9 rfl (lv_at hl 1 rfl) ?_
  refine lv_iload_n hx hb dJ3_checkFromToIndex_8c36e_10 rfl (lv_at hl 2 rfl) ?_
  refine lv_icmp_le (tgt := 22) hx hb dJ3_checkFromToIndex_8c36e_11 (by decide) (fun c3 => ?_) (fun c3 => absurd (by decide) c3)
  refine lv_iload_n hx hb dJ3_checkFromToIndex_8c36e_22 rfl (lv_at hl 0 rfl) ?_
  have hP9 := hP.sub (ws' := []) [] rfl
  have hD9 := hD.sub (ws' := []) [] (by decide) rfl
  have hK9 := hK.sub (tys' := []) [] rfl
  refine W.widen (k := 0) (n := 0) (Nat.le_of_ble_eq_true rfl) (Nat.le_of_ble_eq_true rfl) ?_
  exact W.iret (v := 0) hx hb hr (fun t ht hW => ⟨⟨_, (), rfl, rfl, by rw [ht]; exact hP9, va_K.moved hW.alike hK9, hD9⟩, hS.F ht⟩) hS.2.2 dJ3_checkFromToIndex_8c36e_23
set_option maxHeartbeats 4000000 in
set_option maxRecDepth 100000 in
theorem kX4_cut (l : Launch) (dC : Nat → ClassId) (dI : Nat → Nat → Nat) (g : Nat → Nat) (sz : Nat) (h0 : Nat) (v0 : Value) : Met l yX4_cut wbX4_cut ({ frames := 0, cells := 0, slots := 0, locals := 0 }) (va_Pc [.ref h0, .int 0] (fun U => U.heap.size = sz ∧ va_P (dC, dI) vwCl [(h0, .inr (11, [v0, .int 0]))] U.heap ∧ va_K (dC, dI) vwCl [] U ∧ va_D (fun _ => True) [(h0, .inr (11, [v0, .int 0]))] ∧ ns_F g (va_A [(h0, .inr (11, [v0, .int 0]))] sz) U U.heap)) (va_Qv (fun _ : Unit => True) (fun _ t => va_P (dC, dI) vwCl [(h0, .inr (11, [v0, .int 0]))] t.heap ∧ va_K (dC, dI) vwCl [] t ∧ va_D (va_A [(h0, .inr (11, [v0, .int 0]))] sz) [(h0, .inr (11, [v0, .int 0]))]) (va_A [(h0, .inr (11, [v0, .int 0]))] sz)) 0 0 (va_A [(h0, .inr (11, [v0, .int 0]))] sz) := by
  refine Met.ofW (cc := cX4_cut) (maxL := 2) (ret := none) (by decide) rfl ?_
  intro p e s m args below meth c s₁ B hml hv
  obtain ⟨rfl, hsz, hP, hK, hD0, hF⟩ := hv
  have hx := B.exec
  have hb := B.bytes
  have hr := B.returns
  have hts := atoms_spec (ws := wbX4_cut) B.pre
  have hta : ∀ w ∈ wsALL, w.before _ s = true := fun w h => hts w (List.mem_cons_of_mem _ h)
  have hown : s.vm.findClass RX4 = some m.cls := findClass_of_methodNamed B.named
  have hlocks := B.notSynchronized
  subst hsz
  have hD := hD0.self (sz := s.heap.size)
  generalize hAe : va_A [(h0, .inr (11, [v0, .int 0]))] s.heap.size = A at hD hF ⊢
  have hA : ∀ q : Nat, s.heap.size ≤ q → A q := fun q h => by rw [← hAe]; exact Or.inr h
  have hS : va_S A s.heap s.heap [] := va_S.rf
  have hP : va_P (dC, dI) vwCl [(h0, .inr (11, [v0, .int 0]))] s.heap := hP
  have hl := lv_entry ([.ref h0, .int 0]) (n := 2) (Nat.le_of_ble_eq_true rfl)
  rw [lg_entry_eq]
  generalize (lg_sl ([.ref h0, .int 0]) ++ List.replicate (2 - (lg_sl ([.ref h0, .int 0])).length) Slot.unset).toArray = ls at hl ⊢
  have hl : lv_has ls 2 [(0, .ref h0), (1, .int 0)] := hl
  refine lv_iload_n hx hb dX4_cut_0 rfl (lv_at hl 1 rfl) ?_
  refine lv_if_lt (tgt := 17) hx hb dX4_cut_1 (by decide) (fun c1 => absurd c1 (by decide)) (fun c1 => ?_)
  refine lv_iload_n hx hb dX4_cut_4 rfl (lv_at hl 1 rfl) ?_
  refine lv_aload_n hx hb dX4_cut_5 rfl (lv_at hl 0 rfl) ?_
  refine va_get (D := (dC, dI)) (ci := 11) (v := .int 0) (C := RX4) (T := TX4) (N := 2) hx hb hta naX4 hown hK hP 0 rfl rfl 1 (by decide) (hta _ wm14) (fun _ h9 => h9) rfl dX4_cut_6 ?_
  refine lv_icmp_ge (tgt := 17) hx hb dX4_cut_9 (by decide) (fun c2 => ?_) (fun c2 => absurd (by decide) c2)
  have hP9 := hP.sub (ws' := [(h0, .inr (11, [v0, .int 0]))]) [0] rfl
  have hD9 := hD.sub (ws' := [(h0, .inr (11, [v0, .int 0]))]) [0] (by decide) rfl
  have hK9 := hK.sub (tys' := []) [] rfl
  refine W.widen (k := 0) (n := 0) (Nat.le_of_ble_eq_true rfl) (Nat.le_of_ble_eq_true rfl) ?_
  exact W.vret hx hb hr (fun t ht hW => ⟨⟨(), rfl, trivial, by rw [ht]; exact hP9, va_K.moved hW.alike hK9, hD9⟩, hS.F ht⟩) hS.2.2 dX4_cut_17
set_option maxHeartbeats 4000000 in
set_option maxRecDepth 100000 in
theorem kX16_isIn_28 (l : Launch) (dC : Nat → ClassId) (dI : Nat → Nat → Nat) (g : Nat → Nat) (sz : Nat) (x0 : Int32) (ex0 : (10 : Int) ≤ x0.toInt ∧ x0.toInt ≤ (2147483647 : Int)) : Met l yX16_isIn wbX16_isIn ({ frames := 0, cells := 0, slots := 0, locals := 0 }) (va_Pc [.int x0, .int 0, .int 9] (fun U => U.heap.size = sz ∧ va_P (dC, dI) vwCl [] U.heap ∧ va_K (dC, dI) vwCl [] U ∧ va_D (fun _ => True) [] ∧ ns_F g (va_A [] sz) U U.heap)) (va_Qi (fun (r : Int32) (_ : Unit) => r = 0) (fun _ t => va_P (dC, dI) vwCl [] t.heap ∧ va_K (dC, dI) vwCl [] t ∧ va_D (va_A [] sz) []) (va_A [] sz)) 0 0 (va_A [] sz) := by
  refine Met.ofW (cc := cX16_isIn) (maxL := 3) (ret := (some .boolean)) (by decide) rfl ?_
  intro p e s m args below meth c s₁ B hml hv
  obtain ⟨rfl, hsz, hP, hK, hD0, hF⟩ := hv
  have hx := B.exec
  have hb := B.bytes
  have hr := B.returns
  have hts := atoms_spec (ws := wbX16_isIn) B.pre
  have hta : ∀ w ∈ wsALL, w.before _ s = true := fun w h => hts w (List.mem_cons_of_mem _ h)
  have hown : s.vm.findClass RX16 = some m.cls := findClass_of_methodNamed B.named
  have hlocks := B.notSynchronized
  subst hsz
  have hD := hD0.self (sz := s.heap.size)
  generalize hAe : va_A [] s.heap.size = A at hD hF ⊢
  have hA : ∀ q : Nat, s.heap.size ≤ q → A q := fun q h => by rw [← hAe]; exact Or.inr h
  have hS : va_S A s.heap s.heap [] := va_S.rf
  have hP : va_P (dC, dI) vwCl [] s.heap := hP
  have hl := lv_entry ([.int x0, .int 0, .int 9]) (n := 3) (Nat.le_of_ble_eq_true rfl)
  rw [lg_entry_eq]
  generalize (lg_sl ([.int x0, .int 0, .int 9]) ++ List.replicate (3 - (lg_sl ([.int x0, .int 0, .int 9])).length) Slot.unset).toArray = ls at hl ⊢
  have hl : lv_has ls 3 [(0, .int x0), (1, .int 0), (2, .int 9)] := hl
  refine lv_iload_n hx hb dX16_isIn_0 rfl (lv_at hl 0 rfl) ?_
  refine lv_iload_n hx hb dX16_isIn_1 rfl (lv_at hl 1 rfl) ?_
  refine lv_icmp_lt (tgt := 14) hx hb dX16_isIn_2 (by decide) (fun c1 => absurd c1 (fun z => absurd (show x0.toInt < (0 : Int) from Int32.lt_iff_toInt_lt.mp z) (by omega))) (fun c1 => ?_)
  refine lv_iload_n hx hb dX16_isIn_5 rfl (lv_at hl 0 rfl) ?_
  refine lv_iload_n hx hb dX16_isIn_6 rfl (lv_at hl 2 rfl) ?_
  refine lv_icmp_gt (tgt := 14) hx hb dX16_isIn_7 (by decide) (fun c2 => ?_) (fun c2 => absurd (show (9 : Int32) < x0 from Int32.lt_iff_toInt_lt.mpr (show (9 : Int) < x0.toInt by omega)) c2)
  refine lv_iconst (v := 0) hx hb dX16_isIn_14 (by decide) ?_
  have hP9 := hP.sub (ws' := []) [] rfl
  have hD9 := hD.sub (ws' := []) [] (by decide) rfl
  have hK9 := hK.sub (tys' := []) [] rfl
  refine W.widen (k := 0) (n := 0) (Nat.le_of_ble_eq_true rfl) (Nat.le_of_ble_eq_true rfl) ?_
  exact W.zret (v := 0) hx hb hr (by decide) (fun t ht hW => ⟨⟨_, (), rfl, rfl, by rw [ht]; exact hP9, va_K.moved hW.alike hK9, hD9⟩, hS.F ht⟩) hS.2.2 dX16_isIn_15
set_option maxHeartbeats 4000000 in
set_option maxRecDepth 100000 in
theorem kX9_needWidth_2 (l : Launch) (dC : Nat → ClassId) (dI : Nat → Nat → Nat) (g : Nat → Nat) (sz : Nat) (h0 : Nat) (x0 : Int32) (ex0 : (1 : Int) ≤ x0.toInt ∧ x0.toInt ≤ (60 : Int)) : Met l yX9_needWidth wbX9_needWidth ({ frames := 0, cells := 0, slots := 0, locals := 0 }) (va_Pc [.ref h0, .int x0] (fun U => U.heap.size = sz ∧ va_P (dC, dI) vwCl [] U.heap ∧ va_K (dC, dI) vwCl [] U ∧ va_D (fun _ => True) [] ∧ ns_F g (va_A [] sz) U U.heap)) (va_Qv (fun _ : Unit => True) (fun _ t => va_P (dC, dI) vwCl [] t.heap ∧ va_K (dC, dI) vwCl [] t ∧ va_D (va_A [] sz) []) (va_A [] sz)) 0 0 (va_A [] sz) := by
  refine Met.ofW (cc := cX9_needWidth) (maxL := 2) (ret := none) (by decide) rfl ?_
  intro p e s m args below meth c s₁ B hml hv
  obtain ⟨rfl, hsz, hP, hK, hD0, hF⟩ := hv
  have hx := B.exec
  have hb := B.bytes
  have hr := B.returns
  have hts := atoms_spec (ws := wbX9_needWidth) B.pre
  have hta : ∀ w ∈ wsALL, w.before _ s = true := fun w h => hts w (List.mem_cons_of_mem _ h)
  have hown : s.vm.findClass RX9 = some m.cls := findClass_of_methodNamed B.named
  have hlocks := B.notSynchronized
  subst hsz
  have hD := hD0.self (sz := s.heap.size)
  generalize hAe : va_A [] s.heap.size = A at hD hF ⊢
  have hA : ∀ q : Nat, s.heap.size ≤ q → A q := fun q h => by rw [← hAe]; exact Or.inr h
  have hS : va_S A s.heap s.heap [] := va_S.rf
  have hP : va_P (dC, dI) vwCl [] s.heap := hP
  have hl := lv_entry ([.ref h0, .int x0]) (n := 2) (Nat.le_of_ble_eq_true rfl)
  rw [lg_entry_eq]
  generalize (lg_sl ([.ref h0, .int x0]) ++ List.replicate (2 - (lg_sl ([.ref h0, .int x0])).length) Slot.unset).toArray = ls at hl ⊢
  have hl : lv_has ls 2 [(0, .ref h0), (1, .int x0)] := hl
  refine lv_iload_n hx hb dX9_needWidth_0 rfl (lv_at hl 1 rfl) ?_
  refine lv_iconst (v := 1) hx hb dX9_needWidth_1 (by decide) ?_
  refine lv_icmp_lt (tgt := 11) hx hb dX9_needWidth_2 (by decide) (fun c1 => absurd c1 (fun z => absurd (show x0.toInt < (1 : Int) from Int32.lt_iff_toInt_lt.mp z) (by omega))) (fun c1 => ?_)
  refine lv_iload_n hx hb dX9_needWidth_5 rfl (lv_at hl 1 rfl) ?_
  refine lv_bipush (v := 60) hx hb dX9_needWidth_6 (by decide) ?_
  refine lv_icmp_le (tgt := 22) hx hb dX9_needWidth_8 (by decide) (fun c2 => ?_) (fun c2 => absurd (show x0 ≤ (60 : Int32) from Int32.le_iff_toInt_le.mpr (show x0.toInt ≤ (60 : Int) by omega)) c2)
  have hP9 := hP.sub (ws' := []) [] rfl
  have hD9 := hD.sub (ws' := []) [] (by decide) rfl
  have hK9 := hK.sub (tys' := []) [] rfl
  refine W.widen (k := 0) (n := 0) (Nat.le_of_ble_eq_true rfl) (Nat.le_of_ble_eq_true rfl) ?_
  exact W.vret hx hb hr (fun t ht hW => ⟨⟨(), rfl, trivial, by rw [ht]; exact hP9, va_K.moved hW.alike hK9, hD9⟩, hS.F ht⟩) hS.2.2 dX9_needWidth_22
set_option maxHeartbeats 4000000 in
set_option maxRecDepth 100000 in
theorem kX16_isIn_6 (l : Launch) (dC : Nat → ClassId) (dI : Nat → Nat → Nat) (g : Nat → Nat) (sz : Nat)  : Met l yX16_isIn wbX16_isIn ({ frames := 0, cells := 0, slots := 0, locals := 0 }) (va_Pc [.int 3, .int 1, .int 9] (fun U => U.heap.size = sz ∧ va_P (dC, dI) vwCl [] U.heap ∧ va_K (dC, dI) vwCl [] U ∧ va_D (fun _ => True) [] ∧ ns_F g (va_A [] sz) U U.heap)) (va_Qi (fun (r : Int32) (_ : Unit) => r = 1) (fun _ t => va_P (dC, dI) vwCl [] t.heap ∧ va_K (dC, dI) vwCl [] t ∧ va_D (va_A [] sz) []) (va_A [] sz)) 0 0 (va_A [] sz) := by
  refine Met.ofW (cc := cX16_isIn) (maxL := 3) (ret := (some .boolean)) (by decide) rfl ?_
  intro p e s m args below meth c s₁ B hml hv
  obtain ⟨rfl, hsz, hP, hK, hD0, hF⟩ := hv
  have hx := B.exec
  have hb := B.bytes
  have hr := B.returns
  have hts := atoms_spec (ws := wbX16_isIn) B.pre
  have hta : ∀ w ∈ wsALL, w.before _ s = true := fun w h => hts w (List.mem_cons_of_mem _ h)
  have hown : s.vm.findClass RX16 = some m.cls := findClass_of_methodNamed B.named
  have hlocks := B.notSynchronized
  subst hsz
  have hD := hD0.self (sz := s.heap.size)
  generalize hAe : va_A [] s.heap.size = A at hD hF ⊢
  have hA : ∀ q : Nat, s.heap.size ≤ q → A q := fun q h => by rw [← hAe]; exact Or.inr h
  have hS : va_S A s.heap s.heap [] := va_S.rf
  have hP : va_P (dC, dI) vwCl [] s.heap := hP
  have hl := lv_entry ([.int 3, .int 1, .int 9]) (n := 3) (Nat.le_of_ble_eq_true rfl)
  rw [lg_entry_eq]
  generalize (lg_sl ([.int 3, .int 1, .int 9]) ++ List.replicate (3 - (lg_sl ([.int 3, .int 1, .int 9])).length) Slot.unset).toArray = ls at hl ⊢
  have hl : lv_has ls 3 [(0, .int 3), (1, .int 1), (2, .int 9)] := hl
  refine lv_iload_n hx hb dX16_isIn_0 rfl (lv_at hl 0 rfl) ?_
  refine lv_iload_n hx hb dX16_isIn_1 rfl (lv_at hl 1 rfl) ?_
  refine lv_icmp_lt (tgt := 14) hx hb dX16_isIn_2 (by decide) (fun c1 => absurd c1 (by decide)) (fun c1 => ?_)
  refine lv_iload_n hx hb dX16_isIn_5 rfl (lv_at hl 0 rfl) ?_
  refine lv_iload_n hx hb dX16_isIn_6 rfl (lv_at hl 2 rfl) ?_
  refine lv_icmp_gt (tgt := 14) hx hb dX16_isIn_7 (by decide) (fun c2 => absurd c2 (by decide)) (fun c2 => ?_)
  refine lv_iconst (v := 1) hx hb dX16_isIn_10 (by decide) ?_
  refine lv_goto (tgt := 15) hx hb dX16_isIn_11 (by decide) ?_
  have hP9 := hP.sub (ws' := []) [] rfl
  have hD9 := hD.sub (ws' := []) [] (by decide) rfl
  have hK9 := hK.sub (tys' := []) [] rfl
  refine W.widen (k := 0) (n := 0) (Nat.le_of_ble_eq_true rfl) (Nat.le_of_ble_eq_true rfl) ?_
  exact W.zret (v := 1) hx hb hr (by decide) (fun t ht hW => ⟨⟨_, (), rfl, rfl, by rw [ht]; exact hP9, va_K.moved hW.alike hK9, hD9⟩, hS.F ht⟩) hS.2.2 dX16_isIn_15
set_option maxHeartbeats 4000000 in
set_option maxRecDepth 100000 in
theorem kX16_add_22 (l : Launch) (dC : Nat → ClassId) (dI : Nat → Nat → Nat) (g : Nat → Nat) (sz : Nat)  : Met l yX16_add wbX16_add ({ frames := 0, cells := 0, slots := 0, locals := 0 }) (va_Pc [.long (-8631825753495428022), .long 1] (fun U => U.heap.size = sz ∧ va_P (dC, dI) vwCl [] U.heap ∧ va_K (dC, dI) vwCl [] U ∧ va_D (fun _ => True) [] ∧ ns_F g (va_A [] sz) U U.heap)) (va_Ql (fun (r : Int64) (_ : Unit) => r = 9114562747285005559) (fun _ t => va_P (dC, dI) vwCl [] t.heap ∧ va_K (dC, dI) vwCl [] t ∧ va_D (va_A [] sz) []) (va_A [] sz)) 0 0 (va_A [] sz) := by
  refine Met.ofW (cc := cX16_add) (maxL := 4) (ret := (some .long)) (by decide) rfl ?_
  intro p e s m args below meth c s₁ B hml hv
  obtain ⟨rfl, hsz, hP, hK, hD0, hF⟩ := hv
  have hx := B.exec
  have hb := B.bytes
  have hr := B.returns
  have hts := atoms_spec (ws := wbX16_add) B.pre
  have hta : ∀ w ∈ wsALL, w.before _ s = true := fun w h => hts w (List.mem_cons_of_mem _ h)
  have hown : s.vm.findClass RX16 = some m.cls := findClass_of_methodNamed B.named
  have hlocks := B.notSynchronized
  subst hsz
  have hD := hD0.self (sz := s.heap.size)
  generalize hAe : va_A [] s.heap.size = A at hD hF ⊢
  have hA : ∀ q : Nat, s.heap.size ≤ q → A q := fun q h => by rw [← hAe]; exact Or.inr h
  have hS : va_S A s.heap s.heap [] := va_S.rf
  have hP : va_P (dC, dI) vwCl [] s.heap := hP
  have hl := lv_entry ([.long (-8631825753495428022), .long 1]) (n := 4) (Nat.le_of_ble_eq_true rfl)
  rw [lg_entry_eq]
  generalize (lg_sl ([.long (-8631825753495428022), .long 1]) ++ List.replicate (4 - (lg_sl ([.long (-8631825753495428022), .long 1])).length) Slot.unset).toArray = ls at hl ⊢
  have hl : lv_has ls 4 [(0, .long (-8631825753495428022)), (2, .long 1)] := hl
  refine lv_lload_n hx hb dX16_add_0 rfl (lv_at hl 0 rfl) ?_
  refine lv_ldc2 (v := 31) hx hb hown (hta _ wm1092) dX16_add_1 ?_
  refine lv_lmul hx hb dX16_add_4 ?_
  refine lv_topl (fun y1 ey1 => ?_)
  obtain rfl : y1 = 9114562747285005558 := ey1.trans (by decide)
  refine lv_lload_n hx hb dX16_add_5 rfl (lv_at hl 1 rfl) ?_
  refine lv_ladd hx hb dX16_add_6 ?_
  refine lv_topl (fun y2 ey2 => ?_)
  obtain rfl : y2 = 9114562747285005559 := ey2.trans (by decide)
  have hP9 := hP.sub (ws' := []) [] rfl
  have hD9 := hD.sub (ws' := []) [] (by decide) rfl
  have hK9 := hK.sub (tys' := []) [] rfl
  refine W.widen (k := 0) (n := 0) (Nat.le_of_ble_eq_true rfl) (Nat.le_of_ble_eq_true rfl) ?_
  exact W.lret (v := 9114562747285005559) hx hb hr (fun t ht hW => ⟨⟨_, (), rfl, rfl, by rw [ht]; exact hP9, va_K.moved hW.alike hK9, hD9⟩, hS.F ht⟩) hS.2.2 dX16_add_7
set_option maxHeartbeats 4000000 in
set_option maxRecDepth 100000 in
theorem kX9_lengthAfter_13 (l : Launch) (dC : Nat → ClassId) (dI : Nat → Nat → Nat) (g : Nat → Nat) (sz : Nat) (x0 : Int32) (x1 : Int32) (ex0 : (0 : Int) ≤ x0.toInt ∧ x0.toInt ≤ (3 : Int)) (ex1 : (-1 : Int) ≤ x1.toInt ∧ x1.toInt ≤ (-1 : Int)) : Met l yX9_lengthAfter wbX9_lengthAfter ({ frames := 0, cells := 0, slots := 0, locals := 0 }) (va_Pc [.int x0, .int x1] (fun U => U.heap.size = sz ∧ va_P (dC, dI) vwCl [] U.heap ∧ va_K (dC, dI) vwCl [] U ∧ va_D (fun _ => True) [] ∧ ns_F g (va_A [] sz) U U.heap)) (va_Qi (fun (r : Int32) (_ : Unit) => r = x0) (fun _ t => va_P (dC, dI) vwCl [] t.heap ∧ va_K (dC, dI) vwCl [] t ∧ va_D (va_A [] sz) []) (va_A [] sz)) 0 0 (va_A [] sz) := by
  refine Met.ofW (cc := cX9_lengthAfter) (maxL := 2) (ret := (some .int)) (by decide) rfl ?_
  intro p e s m args below meth c s₁ B hml hv
  obtain ⟨rfl, hsz, hP, hK, hD0, hF⟩ := hv
  have hx := B.exec
  have hb := B.bytes
  have hr := B.returns
  have hts := atoms_spec (ws := wbX9_lengthAfter) B.pre
  have hta : ∀ w ∈ wsALL, w.before _ s = true := fun w h => hts w (List.mem_cons_of_mem _ h)
  have hown : s.vm.findClass RX9 = some m.cls := findClass_of_methodNamed B.named
  have hlocks := B.notSynchronized
  subst hsz
  have hD := hD0.self (sz := s.heap.size)
  generalize hAe : va_A [] s.heap.size = A at hD hF ⊢
  have hA : ∀ q : Nat, s.heap.size ≤ q → A q := fun q h => by rw [← hAe]; exact Or.inr h
  have hS : va_S A s.heap s.heap [] := va_S.rf
  have hP : va_P (dC, dI) vwCl [] s.heap := hP
  have hl := lv_entry ([.int x0, .int x1]) (n := 2) (Nat.le_of_ble_eq_true rfl)
  rw [lg_entry_eq]
  generalize (lg_sl ([.int x0, .int x1]) ++ List.replicate (2 - (lg_sl ([.int x0, .int x1])).length) Slot.unset).toArray = ls at hl ⊢
  have hl : lv_has ls 2 [(0, .int x0), (1, .int x1)] := hl
  refine lv_iload_n hx hb dX9_lengthAfter_0 rfl (lv_at hl 1 rfl) ?_
  refine lv_iconst (v := (-1)) hx hb dX9_lengthAfter_1 (by decide) ?_
  refine lv_icmp_ne (tgt := 7) hx hb dX9_lengthAfter_2 (by decide) (fun c1 => absurd (show x1 = (-1 : Int32) from Int32.toInt_inj.mp (show x1.toInt = (-1 : Int) by omega)) c1) (fun c1 => ?_)
  refine lv_iload_n hx hb dX9_lengthAfter_5 rfl (lv_at hl 0 rfl) ?_
  have hP9 := hP.sub (ws' := []) [] rfl
  have hD9 := hD.sub (ws' := []) [] (by decide) rfl
  have hK9 := hK.sub (tys' := []) [] rfl
  refine W.widen (k := 0) (n := 0) (Nat.le_of_ble_eq_true rfl) (Nat.le_of_ble_eq_true rfl) ?_
  exact W.iret (v := x0) hx hb hr (fun t ht hW => ⟨⟨_, (), rfl, rfl, by rw [ht]; exact hP9, va_K.moved hW.alike hK9, hD9⟩, hS.F ht⟩) hS.2.2 dX9_lengthAfter_6
set_option maxHeartbeats 4000000 in
set_option maxRecDepth 100000 in
theorem kX16_said_5 (l : Launch) (dC : Nat → ClassId) (dI : Nat → Nat → Nat) (g : Nat → Nat) (sz : Nat) (h0 : Nat) (x0 : Int32) (ex0 : (-1 : Int) ≤ x0.toInt ∧ x0.toInt ≤ (-1 : Int)) : Met l yX16_said wbX16_said ({ frames := 0, cells := 0, slots := 0, locals := 0 }) (va_Pc [.ref h0, .int x0] (fun U => U.heap.size = sz ∧ va_P (dC, dI) vwCl [] U.heap ∧ va_K (dC, dI) vwCl [] U ∧ va_D (fun _ => True) [] ∧ ns_F g (va_A [] sz) U U.heap)) (va_Qr (fun _ : Unit => True) (fun _ r t => r = h0 ∧ va_P (dC, dI) vwCl [] t.heap ∧ va_K (dC, dI) vwCl [] t ∧ va_D (va_A [] sz) []) (va_A [] sz)) 0 0 (va_A [] sz) := by
  refine Met.ofW (cc := cX16_said) (maxL := 2) (ret := (some (.object "java/lang/String"))) (by decide) rfl ?_
  intro p e s m args below meth c s₁ B hml hv
  obtain ⟨rfl, hsz, hP, hK, hD0, hF⟩ := hv
  have hx := B.exec
  have hb := B.bytes
  have hr := B.returns
  have hts := atoms_spec (ws := wbX16_said) B.pre
  have hta : ∀ w ∈ wsALL, w.before _ s = true := fun w h => hts w (List.mem_cons_of_mem _ h)
  have hown : s.vm.findClass RX16 = some m.cls := findClass_of_methodNamed B.named
  have hlocks := B.notSynchronized
  subst hsz
  have hD := hD0.self (sz := s.heap.size)
  generalize hAe : va_A [] s.heap.size = A at hD hF ⊢
  have hA : ∀ q : Nat, s.heap.size ≤ q → A q := fun q h => by rw [← hAe]; exact Or.inr h
  have hS : va_S A s.heap s.heap [] := va_S.rf
  have hP : va_P (dC, dI) vwCl [] s.heap := hP
  have hl := lv_entry ([.ref h0, .int x0]) (n := 2) (Nat.le_of_ble_eq_true rfl)
  rw [lg_entry_eq]
  generalize (lg_sl ([.ref h0, .int x0]) ++ List.replicate (2 - (lg_sl ([.ref h0, .int x0])).length) Slot.unset).toArray = ls at hl ⊢
  have hl : lv_has ls 2 [(0, .ref h0), (1, .int x0)] := hl
  refine lv_iload_n hx hb dX16_said_0 rfl (lv_at hl 1 rfl) ?_
  refine lv_iconst (v := (-1)) hx hb dX16_said_1 (by decide) ?_
  refine lv_icmp_ne (tgt := 7) hx hb dX16_said_2 (by decide) (fun c1 => absurd (show x0 = (-1 : Int32) from Int32.toInt_inj.mp (show x0.toInt = (-1 : Int) by omega)) c1) (fun c1 => ?_)
  refine lv_aload_n hx hb dX16_said_5 rfl (lv_at hl 0 rfl) ?_
  have hP9 := hP.sub (ws' := []) [] rfl
  have hD9 := hD.sub (ws' := []) [] (by decide) rfl
  have hK9 := hK.sub (tys' := []) [] rfl
  refine W.widen (k := 0) (n := 0) (Nat.le_of_ble_eq_true rfl) (Nat.le_of_ble_eq_true rfl) ?_
  exact W.aret (v := .ref h0) hx hb hr (by first | exact Or.inl ⟨_, rfl⟩ | exact Or.inr ⟨_, rfl⟩) (Or.inr ⟨_, rfl⟩) (fun t ht hW => ⟨⟨(), _, rfl, trivial, rfl, by rw [ht]; exact hP9, va_K.moved hW.alike hK9, hD9⟩, hS.F ht⟩) hS.2.2 dX16_said_6
set_option maxHeartbeats 4000000 in
set_option maxRecDepth 100000 in
theorem kX16_add_3 (l : Launch) (dC : Nat → ClassId) (dI : Nat → Nat → Nat) (g : Nat → Nat) (sz : Nat)  : Met l yX16_add wbX16_add ({ frames := 0, cells := 0, slots := 0, locals := 0 }) (va_Pc [.long 7963827, .long 60] (fun U => U.heap.size = sz ∧ va_P (dC, dI) vwCl [] U.heap ∧ va_K (dC, dI) vwCl [] U ∧ va_D (fun _ => True) [] ∧ ns_F g (va_A [] sz) U U.heap)) (va_Ql (fun (r : Int64) (_ : Unit) => r = 246878697) (fun _ t => va_P (dC, dI) vwCl [] t.heap ∧ va_K (dC, dI) vwCl [] t ∧ va_D (va_A [] sz) []) (va_A [] sz)) 0 0 (va_A [] sz) := by
  refine Met.ofW (cc := cX16_add) (maxL := 4) (ret := (some .long)) (by decide) rfl ?_
  intro p e s m args below meth c s₁ B hml hv
  obtain ⟨rfl, hsz, hP, hK, hD0, hF⟩ := hv
  have hx := B.exec
  have hb := B.bytes
  have hr := B.returns
  have hts := atoms_spec (ws := wbX16_add) B.pre
  have hta : ∀ w ∈ wsALL, w.before _ s = true := fun w h => hts w (List.mem_cons_of_mem _ h)
  have hown : s.vm.findClass RX16 = some m.cls := findClass_of_methodNamed B.named
  have hlocks := B.notSynchronized
  subst hsz
  have hD := hD0.self (sz := s.heap.size)
  generalize hAe : va_A [] s.heap.size = A at hD hF ⊢
  have hA : ∀ q : Nat, s.heap.size ≤ q → A q := fun q h => by rw [← hAe]; exact Or.inr h
  have hS : va_S A s.heap s.heap [] := va_S.rf
  have hP : va_P (dC, dI) vwCl [] s.heap := hP
  have hl := lv_entry ([.long 7963827, .long 60]) (n := 4) (Nat.le_of_ble_eq_true rfl)
  rw [lg_entry_eq]
  generalize (lg_sl ([.long 7963827, .long 60]) ++ List.replicate (4 - (lg_sl ([.long 7963827, .long 60])).length) Slot.unset).toArray = ls at hl ⊢
  have hl : lv_has ls 4 [(0, .long 7963827), (2, .long 60)] := hl
  refine lv_lload_n hx hb dX16_add_0 rfl (lv_at hl 0 rfl) ?_
  refine lv_ldc2 (v := 31) hx hb hown (hta _ wm1092) dX16_add_1 ?_
  refine lv_lmul hx hb dX16_add_4 ?_
  refine lv_topl (fun y1 ey1 => ?_)
  obtain rfl : y1 = 246878637 := ey1.trans (by decide)
  refine lv_lload_n hx hb dX16_add_5 rfl (lv_at hl 1 rfl) ?_
  refine lv_ladd hx hb dX16_add_6 ?_
  refine lv_topl (fun y2 ey2 => ?_)
  obtain rfl : y2 = 246878697 := ey2.trans (by decide)
  have hP9 := hP.sub (ws' := []) [] rfl
  have hD9 := hD.sub (ws' := []) [] (by decide) rfl
  have hK9 := hK.sub (tys' := []) [] rfl
  refine W.widen (k := 0) (n := 0) (Nat.le_of_ble_eq_true rfl) (Nat.le_of_ble_eq_true rfl) ?_
  exact W.lret (v := 246878697) hx hb hr (fun t ht hW => ⟨⟨_, (), rfl, rfl, by rw [ht]; exact hP9, va_K.moved hW.alike hK9, hD9⟩, hS.F ht⟩) hS.2.2 dX16_add_7
set_option maxHeartbeats 4000000 in
set_option maxRecDepth 100000 in
theorem kJ7_checkLength_df160_3 (l : Launch) (dC : Nat → ClassId) (dI : Nat → Nat → Nat) (g : Nat → Nat) (sz : Nat)  : Met l yJ7_checkLength_df160 wbJ7_checkLength_df160 ({ frames := 0, cells := 0, slots := 0, locals := 0 }) (va_Pc [.int 0, .int 3] (fun U => U.heap.size = sz ∧ va_P (dC, dI) vwCl [] U.heap ∧ va_K (dC, dI) vwCl [] U ∧ va_D (fun _ => True) [] ∧ ns_F g (va_A [] sz) U U.heap)) (va_Qv (fun _ : Unit => True) (fun _ t => va_P (dC, dI) vwCl [] t.heap ∧ va_K (dC, dI) vwCl [] t ∧ va_D (va_A [] sz) []) (va_A [] sz)) 0 0 (va_A [] sz) := by
  refine Met.ofW (cc := cJ7_checkLength_df160) (maxL := 2) (ret := none) (by decide) rfl ?_
  intro p e s m args below meth c s₁ B hml hv
  obtain ⟨rfl, hsz, hP, hK, hD0, hF⟩ := hv
  have hx := B.exec
  have hb := B.bytes
  have hr := B.returns
  have hts := atoms_spec (ws := wbJ7_checkLength_df160) B.pre
  have hta : ∀ w ∈ wsALL, w.before _ s = true := fun w h => hts w (List.mem_cons_of_mem _ h)
  have hown : s.vm.findClass RJ7 = some m.cls := findClass_of_methodNamed B.named
  have hlocks := B.notSynchronized
  subst hsz
  have hD := hD0.self (sz := s.heap.size)
  generalize hAe : va_A [] s.heap.size = A at hD hF ⊢
  have hA : ∀ q : Nat, s.heap.size ≤ q → A q := fun q h => by rw [← hAe]; exact Or.inr h
  have hS : va_S A s.heap s.heap [] := va_S.rf
  have hP : va_P (dC, dI) vwCl [] s.heap := hP
  have hl := lv_entry ([.int 0, .int 3]) (n := 2) (Nat.le_of_ble_eq_true rfl)
  rw [lg_entry_eq]
  generalize (lg_sl ([.int 0, .int 3]) ++ List.replicate (2 - (lg_sl ([.int 0, .int 3])).length) Slot.unset).toArray = ls at hl ⊢
  have hl : lv_has ls 2 [(0, .int 0), (1, .int 3)] := hl
  refine lv_iload_n hx hb dJ7_checkLength_df160_0 rfl (lv_at hl 1 rfl) ?_
  refine lv_iload_n hx hb dJ7_checkLength_df160_1 rfl (lv_at hl 0 rfl) ?_
  refine lv_icmp_ge (tgt := 37) hx hb dJ7_checkLength_df160_2 (by decide) (fun c1 => ?_) (fun c1 => absurd (by decide) c1)
  have hP9 := hP.sub (ws' := []) [] rfl
  have hD9 := hD.sub (ws' := []) [] (by decide) rfl
  have hK9 := hK.sub (tys' := []) [] rfl
  refine W.widen (k := 0) (n := 0) (Nat.le_of_ble_eq_true rfl) (Nat.le_of_ble_eq_true rfl) ?_
  exact W.vret hx hb hr (fun t ht hW => ⟨⟨(), rfl, trivial, by rw [ht]; exact hP9, va_K.moved hW.alike hK9, hD9⟩, hS.F ht⟩) hS.2.2 dJ7_checkLength_df160_37

set_option maxHeartbeats 4000000 in
set_option maxRecDepth 100000 in
theorem ns_say_6_1 {p : Program} {l : Launch} {e : Env} {s : State} {m : MethodId} {args : Array Value} {below : List Frame} {meth : Method} {c : Code} {dC : Nat → ClassId} {dI : Nat → Nat → Nat} {g : Nat → Nat} {A : Nat → Prop} {Q : State → Prop} {h0 : Nat} {x0 : Int32} {x1 : Int32} {x2 : Int32} {x3 : Int32} {x4 : Int32} {x5 : Int32} {v1 : Value} {v2 : Value} {v3 : Value} {v4 : Value} {v5 : Value} {v6 : Value} {v7 : Value} {q1 : Nat} {cyq1 : ClassId} {t9 b9 : Nat} {cb9 : ClassId} {fb9 : Nat → Int32} (hb9 : sb_Fit fb9) {H : Heap} {locs : List Loc} {ls : Array Slot} {E9 : Int32} (hE : E9 = 1) (ex0 : (-1 : Int) ≤ x0.toInt ∧ x0.toInt ≤ (21 : Int)) (ex1 : (-1 : Int) ≤ x1.toInt ∧ x1.toInt ≤ (21 : Int)) (ex2 : (-1 : Int) ≤ x2.toInt ∧ x2.toInt ≤ (21 : Int)) (ex3 : (-1 : Int) ≤ x3.toInt ∧ x3.toInt ≤ (21 : Int)) (ex4 : (-1 : Int) ≤ x4.toInt ∧ x4.toInt ≤ (21 : Int)) (ex5 : (-1 : Int) ≤ x5.toInt ∧ x5.toInt ≤ (21 : Int)) (hx : p.tables.exec = Jvm.exec) (hb : c.code = cX16_say) (hml : c.maxLocals = 14) (hown : s.vm.findClass RX16 = some m.cls) (hts : ∀ w ∈ wbX16_say, w.before args s = true) (hA : ∀ q : Nat, s.heap.size ≤ q → A q) (hF : ns_F g A s s.heap) (hK : va_K (dC, dI) vwCl [(cyq1, .int), (cb9, .byte)] s) (hP : va_P (dC, dI) vwCl [(h0, .inr (23, [.int 0, v1, v2, v3, .ref (g 34), v4, v5, v6, v7])), (q1, .inl (cyq1, 6, .inl (upd (upd (upd (upd (upd (upd (fun _ => 0) 0 x0) 1 x1) 2 x2) 3 x3) 4 x4) 5 x5))), (t9, .inr (0, [.ref b9, .int 0, .int 0, .int 0])), (b9, .inl (cb9, 1, .inl fb9))] H) (hD : va_D A [(h0, .inr (23, [.int 0, v1, v2, v3, .ref (g 34), v4, v5, v6, v7])), (q1, .inl (cyq1, 6, .inl (upd (upd (upd (upd (upd (upd (fun _ => 0) 0 x0) 1 x1) 2 x2) 3 x3) 4 x4) 5 x5))), (t9, .inr (0, [.ref b9, .int 0, .int 0, .int 0])), (b9, .inl (cb9, 1, .inl fb9))]) (hS : va_S A s.heap H locs) (hl : lv_has ls 14 [(12, .int 6), (11, .int 6), (10, .ref q1), (9, .ref t9), (0, .ref h0)]) (k09 : ∀ (H : Heap) (locs : List Loc) (ls : Array Slot), E9 = 0 → va_K (dC, dI) vwCl [(cyq1, .int)] s → va_P (dC, dI) vwCl [(h0, .inr (23, [.int 0, v1, v2, v3, .ref (g 34), v4, v5, v6, v7])), (q1, .inl (cyq1, 6, .inl (upd (upd (upd (upd (upd (upd (fun _ => 0) 0 x0) 1 x1) 2 x2) 3 x3) 4 x4) 5 x5)))] H → va_D A [(h0, .inr (23, [.int 0, v1, v2, v3, .ref (g 34), v4, v5, v6, v7])), (q1, .inl (cyq1, 6, .inl (upd (upd (upd (upd (upd (upd (fun _ => 0) 0 x0) 1 x1) 2 x2) 3 x3) 4 x4) 5 x5)))] → va_S A s.heap H locs → lv_has ls 14 [(9, .ref (g 34)), (0, .ref h0)] → W p l e ({ frames := 7, cells := 37, slots := 246, locals := 172 } : Room) s m args below meth c H locs 37 246 Q (F0 m 173 ls [])) (k19 : ∀ (t9 b9 : Nat) (cb9 : ClassId) (fb9 : Nat → Int32) (hb9 : sb_Fit fb9), ∀ (H : Heap) (locs : List Loc) (ls : Array Slot), E9 = 1 → va_K (dC, dI) vwCl [(cyq1, .int), (cb9, .byte)] s → va_P (dC, dI) vwCl [(h0, .inr (23, [.int 0, v1, v2, v3, .ref (g 34), v4, v5, v6, v7])), (q1, .inl (cyq1, 6, .inl (upd (upd (upd (upd (upd (upd (fun _ => 0) 0 x0) 1 x1) 2 x2) 3 x3) 4 x4) 5 x5))), (t9, .inr (0, [.ref b9, .int 0, .int 0, .int 0])), (b9, .inl (cb9, 1, .inl fb9))] H → va_D A [(h0, .inr (23, [.int 0, v1, v2, v3, .ref (g 34), v4, v5, v6, v7])), (q1, .inl (cyq1, 6, .inl (upd (upd (upd (upd (upd (upd (fun _ => 0) 0 x0) 1 x1) 2 x2) 3 x3) 4 x4) 5 x5))), (t9, .inr (0, [.ref b9, .int 0, .int 0, .int 0])), (b9, .inl (cb9, 1, .inl fb9))] → va_S A s.heap H locs → lv_has ls 14 [(9, .ref t9), (0, .ref h0)] → W p l e ({ frames := 7, cells := 37, slots := 246, locals := 172 } : Room) s m args below meth c H locs 37 246 Q (F0 m 173 ls [])) (k29 : ∀ (t9 b9 : Nat) (cb9 : ClassId) (fb9 : Nat → Int32) (hb9 : sb_Fit fb9), ∀ (H : Heap) (locs : List Loc) (ls : Array Slot), E9 = 2 → va_K (dC, dI) vwCl [(cyq1, .int), (cb9, .byte)] s → va_P (dC, dI) vwCl [(h0, .inr (23, [.int 0, v1, v2, v3, .ref (g 34), v4, v5, v6, v7])), (q1, .inl (cyq1, 6, .inl (upd (upd (upd (upd (upd (upd (fun _ => 0) 0 x0) 1 x1) 2 x2) 3 x3) 4 x4) 5 x5))), (t9, .inr (0, [.ref b9, .int 0, .int 0, .int 0])), (b9, .inl (cb9, 2, .inl fb9))] H → va_D A [(h0, .inr (23, [.int 0, v1, v2, v3, .ref (g 34), v4, v5, v6, v7])), (q1, .inl (cyq1, 6, .inl (upd (upd (upd (upd (upd (upd (fun _ => 0) 0 x0) 1 x1) 2 x2) 3 x3) 4 x4) 5 x5))), (t9, .inr (0, [.ref b9, .int 0, .int 0, .int 0])), (b9, .inl (cb9, 2, .inl fb9))] → va_S A s.heap H locs → lv_has ls 14 [(9, .ref t9), (0, .ref h0)] → W p l e ({ frames := 7, cells := 37, slots := 246, locals := 172 } : Room) s m args below meth c H locs 37 246 Q (F0 m 173 ls [])) (k39 : ∀ (t9 b9 : Nat) (cb9 : ClassId) (fb9 : Nat → Int32) (hb9 : sb_Fit fb9), ∀ (H : Heap) (locs : List Loc) (ls : Array Slot), E9 = 3 → va_K (dC, dI) vwCl [(cyq1, .int), (cb9, .byte)] s → va_P (dC, dI) vwCl [(h0, .inr (23, [.int 0, v1, v2, v3, .ref (g 34), v4, v5, v6, v7])), (q1, .inl (cyq1, 6, .inl (upd (upd (upd (upd (upd (upd (fun _ => 0) 0 x0) 1 x1) 2 x2) 3 x3) 4 x4) 5 x5))), (t9, .inr (0, [.ref b9, .int 0, .int 0, .int 0])), (b9, .inl (cb9, 3, .inl fb9))] H → va_D A [(h0, .inr (23, [.int 0, v1, v2, v3, .ref (g 34), v4, v5, v6, v7])), (q1, .inl (cyq1, 6, .inl (upd (upd (upd (upd (upd (upd (fun _ => 0) 0 x0) 1 x1) 2 x2) 3 x3) 4 x4) 5 x5))), (t9, .inr (0, [.ref b9, .int 0, .int 0, .int 0])), (b9, .inl (cb9, 3, .inl fb9))] → va_S A s.heap H locs → lv_has ls 14 [(9, .ref t9), (0, .ref h0)] → W p l e ({ frames := 7, cells := 37, slots := 246, locals := 172 } : Room) s m args below meth c H locs 37 246 Q (F0 m 173 ls [])) (k49 : ∀ (t9 b9 : Nat) (cb9 : ClassId) (fb9 : Nat → Int32) (hb9 : sb_Fit fb9), ∀ (H : Heap) (locs : List Loc) (ls : Array Slot), E9 = 4 → va_K (dC, dI) vwCl [(cyq1, .int), (cb9, .byte)] s → va_P (dC, dI) vwCl [(h0, .inr (23, [.int 0, v1, v2, v3, .ref (g 34), v4, v5, v6, v7])), (q1, .inl (cyq1, 6, .inl (upd (upd (upd (upd (upd (upd (fun _ => 0) 0 x0) 1 x1) 2 x2) 3 x3) 4 x4) 5 x5))), (t9, .inr (0, [.ref b9, .int 0, .int 0, .int 0])), (b9, .inl (cb9, 4, .inl fb9))] H → va_D A [(h0, .inr (23, [.int 0, v1, v2, v3, .ref (g 34), v4, v5, v6, v7])), (q1, .inl (cyq1, 6, .inl (upd (upd (upd (upd (upd (upd (fun _ => 0) 0 x0) 1 x1) 2 x2) 3 x3) 4 x4) 5 x5))), (t9, .inr (0, [.ref b9, .int 0, .int 0, .int 0])), (b9, .inl (cb9, 4, .inl fb9))] → va_S A s.heap H locs → lv_has ls 14 [(9, .ref t9), (0, .ref h0)] → W p l e ({ frames := 7, cells := 37, slots := 246, locals := 172 } : Room) s m args below meth c H locs 37 246 Q (F0 m 173 ls [])) (k59 : ∀ (t9 b9 : Nat) (cb9 : ClassId) (fb9 : Nat → Int32) (hb9 : sb_Fit fb9), ∀ (H : Heap) (locs : List Loc) (ls : Array Slot), E9 = 5 → va_K (dC, dI) vwCl [(cyq1, .int), (cb9, .byte)] s → va_P (dC, dI) vwCl [(h0, .inr (23, [.int 0, v1, v2, v3, .ref (g 34), v4, v5, v6, v7])), (q1, .inl (cyq1, 6, .inl (upd (upd (upd (upd (upd (upd (fun _ => 0) 0 x0) 1 x1) 2 x2) 3 x3) 4 x4) 5 x5))), (t9, .inr (0, [.ref b9, .int 0, .int 0, .int 0])), (b9, .inl (cb9, 5, .inl fb9))] H → va_D A [(h0, .inr (23, [.int 0, v1, v2, v3, .ref (g 34), v4, v5, v6, v7])), (q1, .inl (cyq1, 6, .inl (upd (upd (upd (upd (upd (upd (fun _ => 0) 0 x0) 1 x1) 2 x2) 3 x3) 4 x4) 5 x5))), (t9, .inr (0, [.ref b9, .int 0, .int 0, .int 0])), (b9, .inl (cb9, 5, .inl fb9))] → va_S A s.heap H locs → lv_has ls 14 [(9, .ref t9), (0, .ref h0)] → W p l e ({ frames := 7, cells := 37, slots := 246, locals := 172 } : Room) s m args below meth c H locs 37 246 Q (F0 m 173 ls [])) (k69 : ∀ (t9 b9 : Nat) (cb9 : ClassId) (fb9 : Nat → Int32) (hb9 : sb_Fit fb9), ∀ (H : Heap) (locs : List Loc) (ls : Array Slot), E9 = 6 → va_K (dC, dI) vwCl [(cyq1, .int), (cb9, .byte)] s → va_P (dC, dI) vwCl [(h0, .inr (23, [.int 0, v1, v2, v3, .ref (g 34), v4, v5, v6, v7])), (q1, .inl (cyq1, 6, .inl (upd (upd (upd (upd (upd (upd (fun _ => 0) 0 x0) 1 x1) 2 x2) 3 x3) 4 x4) 5 x5))), (t9, .inr (0, [.ref b9, .int 0, .int 0, .int 0])), (b9, .inl (cb9, 6, .inl fb9))] H → va_D A [(h0, .inr (23, [.int 0, v1, v2, v3, .ref (g 34), v4, v5, v6, v7])), (q1, .inl (cyq1, 6, .inl (upd (upd (upd (upd (upd (upd (fun _ => 0) 0 x0) 1 x1) 2 x2) 3 x3) 4 x4) 5 x5))), (t9, .inr (0, [.ref b9, .int 0, .int 0, .int 0])), (b9, .inl (cb9, 6, .inl fb9))] → va_S A s.heap H locs → lv_has ls 14 [(9, .ref t9), (0, .ref h0)] → W p l e ({ frames := 7, cells := 37, slots := 246, locals := 172 } : Room) s m args below meth c H locs 37 246 Q (F0 m 173 ls [])) : W p l e ({ frames := 7, cells := 37, slots := 246, locals := 172 } : Room) s m args below meth c H locs 37 246 Q (F0 m 119 ls []) := by
  have hta : ∀ w ∈ wsALL, w.before args s = true := fun w h => hts w (List.mem_cons_of_mem _ h)
  refine lv_iload hx hb dX16_say_119 (lv_at hl 0 rfl) ?_
  refine lv_iload hx hb dX16_say_121 (lv_at hl 1 rfl) ?_
  refine lv_icmp_ge (tgt := 173) hx hb dX16_say_123 (by decide) (fun c1001 => ?_) (fun c1001 => absurd (by decide) c1001)
  have hP := hP.sub (ws' := [(h0, .inr (23, [.int 0, v1, v2, v3, .ref (g 34), v4, v5, v6, v7])), (q1, .inl (cyq1, 6, .inl (upd (upd (upd (upd (upd (upd (fun _ => 0) 0 x0) 1 x1) 2 x2) 3 x3) 4 x4) 5 x5))), (t9, .inr (0, [.ref b9, .int 0, .int 0, .int 0])), (b9, .inl (cb9, 1, .inl fb9))]) [0, 1, 2, 3] rfl
  have hD := hD.sub (ws' := [(h0, .inr (23, [.int 0, v1, v2, v3, .ref (g 34), v4, v5, v6, v7])), (q1, .inl (cyq1, 6, .inl (upd (upd (upd (upd (upd (upd (fun _ => 0) 0 x0) 1 x1) 2 x2) 3 x3) 4 x4) 5 x5))), (t9, .inr (0, [.ref b9, .int 0, .int 0, .int 0])), (b9, .inl (cb9, 1, .inl fb9))]) [0, 1, 2, 3] (by decide) rfl
  have hK := hK.sub (tys' := [(cyq1, .int), (cb9, .byte)]) [0, 1] rfl
  have hl := lv_sub hl (l' := [(9, .ref t9), (0, .ref h0)]) [3, 4] rfl
  refine W.widen (k := 37) (n := 246) (Nat.le_of_ble_eq_true rfl) (Nat.le_of_ble_eq_true rfl) ?_
  exact k19 _ _ _ _ hb9 _ _ _ hE hK hP hD hS hl
set_option maxHeartbeats 4000000 in
set_option maxRecDepth 100000 in
theorem kX4_add (l : Launch) (dC : Nat → ClassId) (dI : Nat → Nat → Nat) (g : Nat → Nat) (sz : Nat) (h0 : Nat) (x0 : Int32) (h1 : Nat) (cc0 : ClassId) (f0 : Nat → Int32) (ex0 : (97 : Int) ≤ x0.toInt ∧ x0.toInt ≤ (122 : Int)) : Met l yX4_add wbX4_add ({ frames := 0, cells := 0, slots := 0, locals := 0 }) (va_Pc [.ref h0, .int x0] (fun U => U.heap.size = sz ∧ va_P (dC, dI) vwCl [(h0, .inr (11, [.ref h1, .int 0])), (h1, .inl (cc0, 4960, .inl f0))] U.heap ∧ va_K (dC, dI) vwCl [(cc0, .int)] U ∧ va_D (fun _ => True) [(h0, .inr (11, [.ref h1, .int 0])), (h1, .inl (cc0, 4960, .inl f0))] ∧ ns_F g (va_A [(h0, .inr (11, [.ref h1, .int 0])), (h1, .inl (cc0, 4960, .inl f0))] sz) U U.heap)) (va_Qv (fun _ : Unit => True) (fun _ t => va_P (dC, dI) vwCl [(h0, .inr (11, [.ref h1, .int 1])), (h1, .inl (cc0, 4960, .inl (upd (f0) 0 x0)))] t.heap ∧ va_K (dC, dI) vwCl [(cc0, .int)] t ∧ va_D (va_A [(h0, .inr (11, [.ref h1, .int 0])), (h1, .inl (cc0, 4960, .inl f0))] sz) [(h0, .inr (11, [.ref h1, .int 1])), (h1, .inl (cc0, 4960, .inl (upd (f0) 0 x0)))]) (va_A [(h0, .inr (11, [.ref h1, .int 0])), (h1, .inl (cc0, 4960, .inl f0))] sz)) 0 0 (va_A [(h0, .inr (11, [.ref h1, .int 0])), (h1, .inl (cc0, 4960, .inl f0))] sz) := by
  refine Met.ofW (cc := cX4_add) (maxL := 2) (ret := none) (by decide) rfl ?_
  intro p e s m args below meth c s₁ B hml hv
  obtain ⟨rfl, hsz, hP, hK, hD0, hF⟩ := hv
  have hx := B.exec
  have hb := B.bytes
  have hr := B.returns
  have hts := atoms_spec (ws := wbX4_add) B.pre
  have hta : ∀ w ∈ wsALL, w.before _ s = true := fun w h => hts w (List.mem_cons_of_mem _ h)
  have hown : s.vm.findClass RX4 = some m.cls := findClass_of_methodNamed B.named
  have hlocks := B.notSynchronized
  subst hsz
  have hD := hD0.self (sz := s.heap.size)
  generalize hAe : va_A [(h0, .inr (11, [.ref h1, .int 0])), (h1, .inl (cc0, 4960, .inl f0))] s.heap.size = A at hD hF ⊢
  have hA : ∀ q : Nat, s.heap.size ≤ q → A q := fun q h => by rw [← hAe]; exact Or.inr h
  have hS : va_S A s.heap s.heap [] := va_S.rf
  have hP : va_P (dC, dI) vwCl [(h0, .inr (11, [.ref h1, .int 0])), (h1, .inl (cc0, 4960, .inl f0))] s.heap := hP
  have hl := lv_entry ([.ref h0, .int x0]) (n := 2) (Nat.le_of_ble_eq_true rfl)
  rw [lg_entry_eq]
  generalize (lg_sl ([.ref h0, .int x0]) ++ List.replicate (2 - (lg_sl ([.ref h0, .int x0])).length) Slot.unset).toArray = ls at hl ⊢
  have hl : lv_has ls 2 [(0, .ref h0), (1, .int x0)] := hl
  refine lv_aload_n hx hb dX4_add_0 rfl (lv_at hl 0 rfl) ?_
  refine va_get (D := (dC, dI)) (ci := 11) (v := .int 0) (C := RX4) (T := TX4) (N := 2) hx hb hta naX4 hown hK hP 0 rfl rfl 1 (by decide) (hta _ wm14) (fun _ h9 => h9) rfl dX4_add_1 ?_
  refine lv_if_lt (tgt := 39) hx hb dX4_add_4 (by decide) (fun c1 => absurd c1 (by decide)) (fun c1 => ?_)
  refine lv_aload_n hx hb dX4_add_7 rfl (lv_at hl 0 rfl) ?_
  refine va_get (D := (dC, dI)) (ci := 11) (v := .int 0) (C := RX4) (T := TX4) (N := 2) hx hb hta naX4 hown hK hP 0 rfl rfl 1 (by decide) (hta _ wm14) (fun _ h9 => h9) rfl dX4_add_8 ?_
  refine lv_aload_n hx hb dX4_add_11 rfl (lv_at hl 0 rfl) ?_
  refine va_get (D := (dC, dI)) (ci := 11) (v := .ref h1) (C := RX4) (T := TX4) (N := 2) hx hb hta naX4 hown hK hP 0 rfl rfl 0 (by decide) (hta _ wm16) (fun _ h9 => h9) rfl dX4_add_12 ?_
  refine va_alen (v := 4960) hx hb hK hP 1 0 rfl rfl (show Int32.ofNat 4960 = 4960 by decide) dX4_add_15 ?_
  refine lv_icmp_ge (tgt := 39) hx hb dX4_add_16 (by decide) (fun c2 => absurd c2 (by decide)) (fun c2 => ?_)
  refine lv_aload_n hx hb dX4_add_19 rfl (lv_at hl 0 rfl) ?_
  refine va_get (D := (dC, dI)) (ci := 11) (v := .ref h1) (C := RX4) (T := TX4) (N := 2) hx hb hta naX4 hown hK hP 0 rfl rfl 0 (by decide) (hta _ wm16) (fun _ h9 => h9) rfl dX4_add_20 ?_
  refine lv_aload_n hx hb dX4_add_23 rfl (lv_at hl 0 rfl) ?_
  refine va_get (D := (dC, dI)) (ci := 11) (v := .int 0) (C := RX4) (T := TX4) (N := 2) hx hb hta naX4 hown hK hP 0 rfl rfl 1 (by decide) (hta _ wm14) (fun _ h9 => h9) rfl dX4_add_24 ?_
  refine lv_iload_n hx hb dX4_add_27 rfl (lv_at hl 1 rfl) ?_
  refine va_iast hx hb hK hP hD hS 1 0 rfl rfl (vp_in_nI (n := 0) (by decide) (by decide)) dX4_add_28 (fun H locs hP hD hS => ?_)
  have hP : va_P (dC, dI) vwCl [(h0, .inr (11, [.ref h1, .int 0])), (h1, .inl (cc0, 4960, .inl (upd (f0) 0 x0)))] H := hP
  have hD : va_D A [(h0, .inr (11, [.ref h1, .int 0])), (h1, .inl (cc0, 4960, .inl (upd (f0) 0 x0)))] := hD
  refine lv_aload_n hx hb dX4_add_29 rfl (lv_at hl 0 rfl) ?_
  refine lv_dup hx hb dX4_add_30 rfl ?_
  refine va_get (D := (dC, dI)) (ci := 11) (v := .int 0) (C := RX4) (T := TX4) (N := 2) hx hb hta naX4 hown hK hP 0 rfl rfl 1 (by decide) (hta _ wm14) (fun _ h9 => h9) rfl dX4_add_31 ?_
  refine lv_iconst (v := 1) hx hb dX4_add_34 (by decide) ?_
  refine lv_iadd hx hb dX4_add_35 ?_
  refine lv_topi (fun y3 ey3 => ?_)
  obtain rfl : y3 = 1 := ey3.trans (by decide)
  refine va_put (D := (dC, dI)) (ci := 11) (v := .int 1) (ty := .int) (C := RX4) (T := TX4) (N := 2) hx hb hta naX4 tyX4 tyX4_ok nmX4 hown hK hP hD hS 0 rfl rfl 1 (by decide) (hta _ wm14) (fun _ h9 => h9) rfl (by decide +kernel) rfl rfl (Nat.le_of_ble_eq_true rfl) dX4_add_36 (fun H locs hP hD hS => ?_)
  have hP : va_P (dC, dI) vwCl [(h0, .inr (11, [.ref h1, .int 1])), (h1, .inl (cc0, 4960, .inl (upd (f0) 0 x0)))] H := hP
  have hD : va_D A [(h0, .inr (11, [.ref h1, .int 1])), (h1, .inl (cc0, 4960, .inl (upd (f0) 0 x0)))] := hD
  have hP9 := hP.sub (ws' := [(h0, .inr (11, [.ref h1, .int 1])), (h1, .inl (cc0, 4960, .inl (upd (f0) 0 x0)))]) [0, 1] rfl
  have hD9 := hD.sub (ws' := [(h0, .inr (11, [.ref h1, .int 1])), (h1, .inl (cc0, 4960, .inl (upd (f0) 0 x0)))]) [0, 1] (by decide) rfl
  have hK9 := hK.sub (tys' := [(cc0, .int)]) [0] rfl
  refine W.widen (k := 0) (n := 0) (Nat.le_of_ble_eq_true rfl) (Nat.le_of_ble_eq_true rfl) ?_
  exact W.vret hx hb hr (fun t ht hW => ⟨⟨(), rfl, trivial, by rw [ht]; exact hP9, va_K.moved hW.alike hK9, hD9⟩, hS.F ht⟩) hS.2.2 dX4_add_39
set_option maxHeartbeats 4000000 in
set_option maxRecDepth 100000 in
theorem kX4_add_45 (l : Launch) (dC : Nat → ClassId) (dI : Nat → Nat → Nat) (g : Nat → Nat) (sz : Nat) (h0 : Nat) (x0 : Int32) (h1 : Nat) (cc0 : ClassId) (f0 : Nat → Int32) (ex0 : (22 : Int) ≤ x0.toInt ∧ x0.toInt ≤ (2147483647 : Int)) : Met l yX4_add wbX4_add ({ frames := 0, cells := 0, slots := 0, locals := 0 }) (va_Pc [.ref h0, .int x0] (fun U => U.heap.size = sz ∧ va_P (dC, dI) vwCl [(h0, .inr (11, [.ref h1, .int 5])), (h1, .inl (cc0, 6, .inl f0))] U.heap ∧ va_K (dC, dI) vwCl [(cc0, .int)] U ∧ va_D (fun _ => True) [(h0, .inr (11, [.ref h1, .int 5])), (h1, .inl (cc0, 6, .inl f0))] ∧ ns_F g (va_A [(h0, .inr (11, [.ref h1, .int 5])), (h1, .inl (cc0, 6, .inl f0))] sz) U U.heap)) (va_Qv (fun _ : Unit => True) (fun _ t => va_P (dC, dI) vwCl [(h0, .inr (11, [.ref h1, .int 6])), (h1, .inl (cc0, 6, .inl (upd (f0) 5 x0)))] t.heap ∧ va_K (dC, dI) vwCl [(cc0, .int)] t ∧ va_D (va_A [(h0, .inr (11, [.ref h1, .int 5])), (h1, .inl (cc0, 6, .inl f0))] sz) [(h0, .inr (11, [.ref h1, .int 6])), (h1, .inl (cc0, 6, .inl (upd (f0) 5 x0)))]) (va_A [(h0, .inr (11, [.ref h1, .int 5])), (h1, .inl (cc0, 6, .inl f0))] sz)) 0 0 (va_A [(h0, .inr (11, [.ref h1, .int 5])), (h1, .inl (cc0, 6, .inl f0))] sz) := by
  refine Met.ofW (cc := cX4_add) (maxL := 2) (ret := none) (by decide) rfl ?_
  intro p e s m args below meth c s₁ B hml hv
  obtain ⟨rfl, hsz, hP, hK, hD0, hF⟩ := hv
  have hx := B.exec
  have hb := B.bytes
  have hr := B.returns
  have hts := atoms_spec (ws := wbX4_add) B.pre
  have hta : ∀ w ∈ wsALL, w.before _ s = true := fun w h => hts w (List.mem_cons_of_mem _ h)
  have hown : s.vm.findClass RX4 = some m.cls := findClass_of_methodNamed B.named
  have hlocks := B.notSynchronized
  subst hsz
  have hD := hD0.self (sz := s.heap.size)
  generalize hAe : va_A [(h0, .inr (11, [.ref h1, .int 5])), (h1, .inl (cc0, 6, .inl f0))] s.heap.size = A at hD hF ⊢
  have hA : ∀ q : Nat, s.heap.size ≤ q → A q := fun q h => by rw [← hAe]; exact Or.inr h
  have hS : va_S A s.heap s.heap [] := va_S.rf
  have hP : va_P (dC, dI) vwCl [(h0, .inr (11, [.ref h1, .int 5])), (h1, .inl (cc0, 6, .inl f0))] s.heap := hP
  have hl := lv_entry ([.ref h0, .int x0]) (n := 2) (Nat.le_of_ble_eq_true rfl)
  rw [lg_entry_eq]
  generalize (lg_sl ([.ref h0, .int x0]) ++ List.replicate (2 - (lg_sl ([.ref h0, .int x0])).length) Slot.unset).toArray = ls at hl ⊢
  have hl : lv_has ls 2 [(0, .ref h0), (1, .int x0)] := hl
  refine lv_aload_n hx hb dX4_add_0 rfl (lv_at hl 0 rfl) ?_
  refine va_get (D := (dC, dI)) (ci := 11) (v := .int 5) (C := RX4) (T := TX4) (N := 2) hx hb hta naX4 hown hK hP 0 rfl rfl 1 (by decide) (hta _ wm14) (fun _ h9 => h9) rfl dX4_add_1 ?_
  refine lv_if_lt (tgt := 39) hx hb dX4_add_4 (by decide) (fun c1 => absurd c1 (by decide)) (fun c1 => ?_)
  refine lv_aload_n hx hb dX4_add_7 rfl (lv_at hl 0 rfl) ?_
  refine va_get (D := (dC, dI)) (ci := 11) (v := .int 5) (C := RX4) (T := TX4) (N := 2) hx hb hta naX4 hown hK hP 0 rfl rfl 1 (by decide) (hta _ wm14) (fun _ h9 => h9) rfl dX4_add_8 ?_
  refine lv_aload_n hx hb dX4_add_11 rfl (lv_at hl 0 rfl) ?_
  refine va_get (D := (dC, dI)) (ci := 11) (v := .ref h1) (C := RX4) (T := TX4) (N := 2) hx hb hta naX4 hown hK hP 0 rfl rfl 0 (by decide) (hta _ wm16) (fun _ h9 => h9) rfl dX4_add_12 ?_
  refine va_alen (v := 6) hx hb hK hP 1 0 rfl rfl (show Int32.ofNat 6 = 6 by decide) dX4_add_15 ?_
  refine lv_icmp_ge (tgt := 39) hx hb dX4_add_16 (by decide) (fun c2 => absurd c2 (by decide)) (fun c2 => ?_)
  refine lv_aload_n hx hb dX4_add_19 rfl (lv_at hl 0 rfl) ?_
  refine va_get (D := (dC, dI)) (ci := 11) (v := .ref h1) (C := RX4) (T := TX4) (N := 2) hx hb hta naX4 hown hK hP 0 rfl rfl 0 (by decide) (hta _ wm16) (fun _ h9 => h9) rfl dX4_add_20 ?_
  refine lv_aload_n hx hb dX4_add_23 rfl (lv_at hl 0 rfl) ?_
  refine va_get (D := (dC, dI)) (ci := 11) (v := .int 5) (C := RX4) (T := TX4) (N := 2) hx hb hta naX4 hown hK hP 0 rfl rfl 1 (by decide) (hta _ wm14) (fun _ h9 => h9) rfl dX4_add_24 ?_
  refine lv_iload_n hx hb dX4_add_27 rfl (lv_at hl 1 rfl) ?_
  refine va_iast hx hb hK hP hD hS 1 0 rfl rfl (vp_in_nI (n := 5) (by decide) (by decide)) dX4_add_28 (fun H locs hP hD hS => ?_)
  have hP : va_P (dC, dI) vwCl [(h0, .inr (11, [.ref h1, .int 5])), (h1, .inl (cc0, 6, .inl (upd (f0) 5 x0)))] H := hP
  have hD : va_D A [(h0, .inr (11, [.ref h1, .int 5])), (h1, .inl (cc0, 6, .inl (upd (f0) 5 x0)))] := hD
  refine lv_aload_n hx hb dX4_add_29 rfl (lv_at hl 0 rfl) ?_
  refine lv_dup hx hb dX4_add_30 rfl ?_
  refine va_get (D := (dC, dI)) (ci := 11) (v := .int 5) (C := RX4) (T := TX4) (N := 2) hx hb hta naX4 hown hK hP 0 rfl rfl 1 (by decide) (hta _ wm14) (fun _ h9 => h9) rfl dX4_add_31 ?_
  refine lv_iconst (v := 1) hx hb dX4_add_34 (by decide) ?_
  refine lv_iadd hx hb dX4_add_35 ?_
  refine lv_topi (fun y3 ey3 => ?_)
  obtain rfl : y3 = 6 := ey3.trans (by decide)
  refine va_put (D := (dC, dI)) (ci := 11) (v := .int 6) (ty := .int) (C := RX4) (T := TX4) (N := 2) hx hb hta naX4 tyX4 tyX4_ok nmX4 hown hK hP hD hS 0 rfl rfl 1 (by decide) (hta _ wm14) (fun _ h9 => h9) rfl (by decide +kernel) rfl rfl (Nat.le_of_ble_eq_true rfl) dX4_add_36 (fun H locs hP hD hS => ?_)
  have hP : va_P (dC, dI) vwCl [(h0, .inr (11, [.ref h1, .int 6])), (h1, .inl (cc0, 6, .inl (upd (f0) 5 x0)))] H := hP
  have hD : va_D A [(h0, .inr (11, [.ref h1, .int 6])), (h1, .inl (cc0, 6, .inl (upd (f0) 5 x0)))] := hD
  have hP9 := hP.sub (ws' := [(h0, .inr (11, [.ref h1, .int 6])), (h1, .inl (cc0, 6, .inl (upd (f0) 5 x0)))]) [0, 1] rfl
  have hD9 := hD.sub (ws' := [(h0, .inr (11, [.ref h1, .int 6])), (h1, .inl (cc0, 6, .inl (upd (f0) 5 x0)))]) [0, 1] (by decide) rfl
  have hK9 := hK.sub (tys' := [(cc0, .int)]) [0] rfl
  refine W.widen (k := 0) (n := 0) (Nat.le_of_ble_eq_true rfl) (Nat.le_of_ble_eq_true rfl) ?_
  exact W.vret hx hb hr (fun t ht hW => ⟨⟨(), rfl, trivial, by rw [ht]; exact hP9, va_K.moved hW.alike hK9, hD9⟩, hS.F ht⟩) hS.2.2 dX4_add_39
set_option maxHeartbeats 4000000 in
set_option maxRecDepth 100000 in
theorem kX4_add_14 (l : Launch) (dC : Nat → ClassId) (dI : Nat → Nat → Nat) (g : Nat → Nat) (sz : Nat) (h0 : Nat) (h1 : Nat) (cc0 : ClassId) (f0 : Nat → Int32) : Met l yX4_add wbX4_add ({ frames := 0, cells := 0, slots := 0, locals := 0 }) (va_Pc [.ref h0, .int 6] (fun U => U.heap.size = sz ∧ va_P (dC, dI) vwCl [(h0, .inr (11, [.ref h1, .int 0])), (h1, .inl (cc0, 4960, .inl f0))] U.heap ∧ va_K (dC, dI) vwCl [(cc0, .int)] U ∧ va_D (fun _ => True) [(h0, .inr (11, [.ref h1, .int 0])), (h1, .inl (cc0, 4960, .inl f0))] ∧ ns_F g (va_A [(h0, .inr (11, [.ref h1, .int 0])), (h1, .inl (cc0, 4960, .inl f0))] sz) U U.heap)) (va_Qv (fun _ : Unit => True) (fun _ t => va_P (dC, dI) vwCl [(h0, .inr (11, [.ref h1, .int 1])), (h1, .inl (cc0, 4960, .inl (upd (f0) 0 6)))] t.heap ∧ va_K (dC, dI) vwCl [(cc0, .int)] t ∧ va_D (va_A [(h0, .inr (11, [.ref h1, .int 0])), (h1, .inl (cc0, 4960, .inl f0))] sz) [(h0, .inr (11, [.ref h1, .int 1])), (h1, .inl (cc0, 4960, .inl (upd (f0) 0 6)))]) (va_A [(h0, .inr (11, [.ref h1, .int 0])), (h1, .inl (cc0, 4960, .inl f0))] sz)) 0 0 (va_A [(h0, .inr (11, [.ref h1, .int 0])), (h1, .inl (cc0, 4960, .inl f0))] sz) := by
  refine Met.ofW (cc := cX4_add) (maxL := 2) (ret := none) (by decide) rfl ?_
  intro p e s m args below meth c s₁ B hml hv
  obtain ⟨rfl, hsz, hP, hK, hD0, hF⟩ := hv
  have hx := B.exec
  have hb := B.bytes
  have hr := B.returns
  have hts := atoms_spec (ws := wbX4_add) B.pre
  have hta : ∀ w ∈ wsALL, w.before _ s = true := fun w h => hts w (List.mem_cons_of_mem _ h)
  have hown : s.vm.findClass RX4 = some m.cls := findClass_of_methodNamed B.named
  have hlocks := B.notSynchronized
  subst hsz
  have hD := hD0.self (sz := s.heap.size)
  generalize hAe : va_A [(h0, .inr (11, [.ref h1, .int 0])), (h1, .inl (cc0, 4960, .inl f0))] s.heap.size = A at hD hF ⊢
  have hA : ∀ q : Nat, s.heap.size ≤ q → A q := fun q h => by rw [← hAe]; exact Or.inr h
  have hS : va_S A s.heap s.heap [] := va_S.rf
  have hP : va_P (dC, dI) vwCl [(h0, .inr (11, [.ref h1, .int 0])), (h1, .inl (cc0, 4960, .inl f0))] s.heap := hP
  have hl := lv_entry ([.ref h0, .int 6]) (n := 2) (Nat.le_of_ble_eq_true rfl)
  rw [lg_entry_eq]
  generalize (lg_sl ([.ref h0, .int 6]) ++ List.replicate (2 - (lg_sl ([.ref h0, .int 6])).length) Slot.unset).toArray = ls at hl ⊢
  have hl : lv_has ls 2 [(0, .ref h0), (1, .int 6)] := hl
  refine lv_aload_n hx hb dX4_add_0 rfl (lv_at hl 0 rfl) ?_
  refine va_get (D := (dC, dI)) (ci := 11) (v := .int 0) (C := RX4) (T := TX4) (N := 2) hx hb hta naX4 hown hK hP 0 rfl rfl 1 (by decide) (hta _ wm14) (fun _ h9 => h9) rfl dX4_add_1 ?_
  refine lv_if_lt (tgt := 39) hx hb dX4_add_4 (by decide) (fun c1 => absurd c1 (by decide)) (fun c1 => ?_)
  refine lv_aload_n hx hb dX4_add_7 rfl (lv_at hl 0 rfl) ?_
  refine va_get (D := (dC, dI)) (ci := 11) (v := .int 0) (C := RX4) (T := TX4) (N := 2) hx hb hta naX4 hown hK hP 0 rfl rfl 1 (by decide) (hta _ wm14) (fun _ h9 => h9) rfl dX4_add_8 ?_
  refine lv_aload_n hx hb dX4_add_11 rfl (lv_at hl 0 rfl) ?_
  refine va_get (D := (dC, dI)) (ci := 11) (v := .ref h1) (C := RX4) (T := TX4) (N := 2) hx hb hta naX4 hown hK hP 0 rfl rfl 0 (by decide) (hta _ wm16) (fun _ h9 => h9) rfl dX4_add_12 ?_
  refine va_alen (v := 4960) hx hb hK hP 1 0 rfl rfl (show Int32.ofNat 4960 = 4960 by decide) dX4_add_15 ?_
  refine lv_icmp_ge (tgt := 39) hx hb dX4_add_16 (by decide) (fun c2 => absurd c2 (by decide)) (fun c2 => ?_)
  refine lv_aload_n hx hb dX4_add_19 rfl (lv_at hl 0 rfl) ?_
  refine va_get (D := (dC, dI)) (ci := 11) (v := .ref h1) (C := RX4) (T := TX4) (N := 2) hx hb hta naX4 hown hK hP 0 rfl rfl 0 (by decide) (hta _ wm16) (fun _ h9 => h9) rfl dX4_add_20 ?_
  refine lv_aload_n hx hb dX4_add_23 rfl (lv_at hl 0 rfl) ?_
  refine va_get (D := (dC, dI)) (ci := 11) (v := .int 0) (C := RX4) (T := TX4) (N := 2) hx hb hta naX4 hown hK hP 0 rfl rfl 1 (by decide) (hta _ wm14) (fun _ h9 => h9) rfl dX4_add_24 ?_
  refine lv_iload_n hx hb dX4_add_27 rfl (lv_at hl 1 rfl) ?_
  refine va_iast hx hb hK hP hD hS 1 0 rfl rfl (vp_in_nI (n := 0) (by decide) (by decide)) dX4_add_28 (fun H locs hP hD hS => ?_)
  have hP : va_P (dC, dI) vwCl [(h0, .inr (11, [.ref h1, .int 0])), (h1, .inl (cc0, 4960, .inl (upd (f0) 0 6)))] H := hP
  have hD : va_D A [(h0, .inr (11, [.ref h1, .int 0])), (h1, .inl (cc0, 4960, .inl (upd (f0) 0 6)))] := hD
  refine lv_aload_n hx hb dX4_add_29 rfl (lv_at hl 0 rfl) ?_
  refine lv_dup hx hb dX4_add_30 rfl ?_
  refine va_get (D := (dC, dI)) (ci := 11) (v := .int 0) (C := RX4) (T := TX4) (N := 2) hx hb hta naX4 hown hK hP 0 rfl rfl 1 (by decide) (hta _ wm14) (fun _ h9 => h9) rfl dX4_add_31 ?_
  refine lv_iconst (v := 1) hx hb dX4_add_34 (by decide) ?_
  refine lv_iadd hx hb dX4_add_35 ?_
  refine lv_topi (fun y3 ey3 => ?_)
  obtain rfl : y3 = 1 := ey3.trans (by decide)
  refine va_put (D := (dC, dI)) (ci := 11) (v := .int 1) (ty := .int) (C := RX4) (T := TX4) (N := 2) hx hb hta naX4 tyX4 tyX4_ok nmX4 hown hK hP hD hS 0 rfl rfl 1 (by decide) (hta _ wm14) (fun _ h9 => h9) rfl (by decide +kernel) rfl rfl (Nat.le_of_ble_eq_true rfl) dX4_add_36 (fun H locs hP hD hS => ?_)
  have hP : va_P (dC, dI) vwCl [(h0, .inr (11, [.ref h1, .int 1])), (h1, .inl (cc0, 4960, .inl (upd (f0) 0 6)))] H := hP
  have hD : va_D A [(h0, .inr (11, [.ref h1, .int 1])), (h1, .inl (cc0, 4960, .inl (upd (f0) 0 6)))] := hD
  have hP9 := hP.sub (ws' := [(h0, .inr (11, [.ref h1, .int 1])), (h1, .inl (cc0, 4960, .inl (upd (f0) 0 6)))]) [0, 1] rfl
  have hD9 := hD.sub (ws' := [(h0, .inr (11, [.ref h1, .int 1])), (h1, .inl (cc0, 4960, .inl (upd (f0) 0 6)))]) [0, 1] (by decide) rfl
  have hK9 := hK.sub (tys' := [(cc0, .int)]) [0] rfl
  refine W.widen (k := 0) (n := 0) (Nat.le_of_ble_eq_true rfl) (Nat.le_of_ble_eq_true rfl) ?_
  exact W.vret hx hb hr (fun t ht hW => ⟨⟨(), rfl, trivial, by rw [ht]; exact hP9, va_K.moved hW.alike hK9, hD9⟩, hS.F ht⟩) hS.2.2 dX4_add_39
set_option maxHeartbeats 4000000 in
set_option maxRecDepth 100000 in
theorem kX9_lengthAfter (l : Launch) (dC : Nat → ClassId) (dI : Nat → Nat → Nat) (g : Nat → Nat) (sz : Nat) (x0 : Int32) (ex0 : (-1 : Int) ≤ x0.toInt ∧ x0.toInt ≤ (21 : Int)) : Met l yX9_lengthAfter wbX9_lengthAfter ({ frames := 0, cells := 0, slots := 0, locals := 0 }) (va_Pc [.int 0, .int x0] (fun U => U.heap.size = sz ∧ va_P (dC, dI) vwCl [] U.heap ∧ va_K (dC, dI) vwCl [] U ∧ va_D (fun _ => True) [] ∧ ns_F g (va_A [] sz) U U.heap)) (va_Qi (fun (r : Int32) (_ : Unit) => r = (ns_len 0 x0)) (fun _ t => va_P (dC, dI) vwCl [] t.heap ∧ va_K (dC, dI) vwCl [] t ∧ va_D (va_A [] sz) []) (va_A [] sz)) 0 0 (va_A [] sz) := by
  refine Met.ofW (cc := cX9_lengthAfter) (maxL := 2) (ret := (some .int)) (by decide) rfl ?_
  intro p e s m args below meth c s₁ B hml hv
  obtain ⟨rfl, hsz, hP, hK, hD0, hF⟩ := hv
  have hx := B.exec
  have hb := B.bytes
  have hr := B.returns
  have hts := atoms_spec (ws := wbX9_lengthAfter) B.pre
  have hta : ∀ w ∈ wsALL, w.before _ s = true := fun w h => hts w (List.mem_cons_of_mem _ h)
  have hown : s.vm.findClass RX9 = some m.cls := findClass_of_methodNamed B.named
  have hlocks := B.notSynchronized
  subst hsz
  have hD := hD0.self (sz := s.heap.size)
  generalize hAe : va_A [] s.heap.size = A at hD hF ⊢
  have hA : ∀ q : Nat, s.heap.size ≤ q → A q := fun q h => by rw [← hAe]; exact Or.inr h
  have hS : va_S A s.heap s.heap [] := va_S.rf
  have hP : va_P (dC, dI) vwCl [] s.heap := hP
  have hl := lv_entry ([.int 0, .int x0]) (n := 2) (Nat.le_of_ble_eq_true rfl)
  rw [lg_entry_eq]
  generalize (lg_sl ([.int 0, .int x0]) ++ List.replicate (2 - (lg_sl ([.int 0, .int x0])).length) Slot.unset).toArray = ls at hl ⊢
  have hl : lv_has ls 2 [(0, .int 0), (1, .int x0)] := hl
  refine lv_iload_n hx hb dX9_lengthAfter_0 rfl (lv_at hl 1 rfl) ?_
  refine lv_iconst (v := (-1)) hx hb dX9_lengthAfter_1 (by decide) ?_
  refine lv_icmp_ne (tgt := 7) hx hb dX9_lengthAfter_2 (by decide) (fun c1 => ?_) (fun c1 => ?_)
  · have ec1 : ¬ x0.toInt = (-1 : Int) := fun z => c1 (Int32.toInt_inj.mp z)
    refine lv_iload_n hx hb dX9_lengthAfter_7 rfl (lv_at hl 1 rfl) ?_
    refine lv_bipush (v := 21) hx hb dX9_lengthAfter_8 (by decide) ?_
    refine lv_icmp_ne (tgt := 15) hx hb dX9_lengthAfter_10 (by decide) (fun c2 => ?_) (fun c2 => ?_)
    · have ec2 : ¬ x0.toInt = (21 : Int) := fun z => c2 (Int32.toInt_inj.mp z)
      refine lv_iload_n hx hb dX9_lengthAfter_15 rfl (lv_at hl 1 rfl) ?_
      refine lv_bipush (v := 20) hx hb dX9_lengthAfter_16 (by decide) ?_
      refine lv_icmp_ne (tgt := 33) hx hb dX9_lengthAfter_18 (by decide) (fun c3 => ?_) (fun c3 => ?_)
      · have ec3 : ¬ x0.toInt = (20 : Int) := fun z => c3 (Int32.toInt_inj.mp z)
        refine lv_iload_n hx hb dX9_lengthAfter_33 rfl (lv_at hl 0 rfl) ?_
        refine lv_iconst (v := 1) hx hb dX9_lengthAfter_34 (by decide) ?_
        refine lv_iadd hx hb dX9_lengthAfter_35 ?_
        refine lv_topi (fun y4 ey4 => ?_)
        obtain rfl : y4 = 1 := ey4.trans (by decide)
        have hP9 := hP.sub (ws' := []) [] rfl
        have hD9 := hD.sub (ws' := []) [] (by decide) rfl
        have hK9 := hK.sub (tys' := []) [] rfl
        refine W.widen (k := 0) (n := 0) (Nat.le_of_ble_eq_true rfl) (Nat.le_of_ble_eq_true rfl) ?_
        have hz9 : 1 = (ns_len 0 x0) := (by have a0 : Int32.toInt 0 = 0 := (by decide); unfold ns_len; (repeat' split) <;> first | rfl | (exfalso; omega))
        exact W.iret (v := 1) hx hb hr (fun t ht hW => ⟨⟨_, (), rfl, hz9, by rw [ht]; exact hP9, va_K.moved hW.alike hK9, hD9⟩, hS.F ht⟩) hS.2.2 dX9_lengthAfter_36
      · have ec3 : x0.toInt = (20 : Int) := congrArg Int32.toInt c3
        refine lv_iload_n hx hb dX9_lengthAfter_21 rfl (lv_at hl 0 rfl) ?_
        refine lv_if_le (tgt := 31) hx hb dX9_lengthAfter_22 (by decide) (fun c5 => ?_) (fun c5 => absurd (by decide) c5)
        refine lv_iconst (v := 0) hx hb dX9_lengthAfter_31 (by decide) ?_
        have hP9 := hP.sub (ws' := []) [] rfl
        have hD9 := hD.sub (ws' := []) [] (by decide) rfl
        have hK9 := hK.sub (tys' := []) [] rfl
        refine W.widen (k := 0) (n := 0) (Nat.le_of_ble_eq_true rfl) (Nat.le_of_ble_eq_true rfl) ?_
        have hz9 : 0 = (ns_len 0 x0) := (by have a0 : Int32.toInt 0 = 0 := (by decide); unfold ns_len; (repeat' split) <;> first | rfl | (exfalso; omega))
        exact W.iret (v := 0) hx hb hr (fun t ht hW => ⟨⟨_, (), rfl, hz9, by rw [ht]; exact hP9, va_K.moved hW.alike hK9, hD9⟩, hS.F ht⟩) hS.2.2 dX9_lengthAfter_32
    · have ec2 : x0.toInt = (21 : Int) := congrArg Int32.toInt c2
      refine lv_iconst (v := 0) hx hb dX9_lengthAfter_13 (by decide) ?_
      have hP9 := hP.sub (ws' := []) [] rfl
      have hD9 := hD.sub (ws' := []) [] (by decide) rfl
      have hK9 := hK.sub (tys' := []) [] rfl
      refine W.widen (k := 0) (n := 0) (Nat.le_of_ble_eq_true rfl) (Nat.le_of_ble_eq_true rfl) ?_
      have hz9 : 0 = (ns_len 0 x0) := (by have a0 : Int32.toInt 0 = 0 := (by decide); unfold ns_len; (repeat' split) <;> first | rfl | (exfalso; omega))
      exact W.iret (v := 0) hx hb hr (fun t ht hW => ⟨⟨_, (), rfl, hz9, by rw [ht]; exact hP9, va_K.moved hW.alike hK9, hD9⟩, hS.F ht⟩) hS.2.2 dX9_lengthAfter_14
  · have ec1 : x0.toInt = (-1 : Int) := congrArg Int32.toInt c1
    refine lv_iload_n hx hb dX9_lengthAfter_5 rfl (lv_at hl 0 rfl) ?_
    have hP9 := hP.sub (ws' := []) [] rfl
    have hD9 := hD.sub (ws' := []) [] (by decide) rfl
    have hK9 := hK.sub (tys' := []) [] rfl
    refine W.widen (k := 0) (n := 0) (Nat.le_of_ble_eq_true rfl) (Nat.le_of_ble_eq_true rfl) ?_
    have hz9 : 0 = (ns_len 0 x0) := (by have a0 : Int32.toInt 0 = 0 := (by decide); unfold ns_len; (repeat' split) <;> first | rfl | (exfalso; omega))
    exact W.iret (v := 0) hx hb hr (fun t ht hW => ⟨⟨_, (), rfl, hz9, by rw [ht]; exact hP9, va_K.moved hW.alike hK9, hD9⟩, hS.F ht⟩) hS.2.2 dX9_lengthAfter_6
set_option maxHeartbeats 4000000 in
set_option maxRecDepth 100000 in
theorem kX4_get_11 (l : Launch) (dC : Nat → ClassId) (dI : Nat → Nat → Nat) (g : Nat → Nat) (sz : Nat) (h0 : Nat) (h1 : Nat) (cc0 : ClassId) (x0 : Int32) (x1 : Int32) (x2 : Int32) (x3 : Int32) (x4 : Int32) (x5 : Int32) (ex0 : (-1 : Int) ≤ x0.toInt ∧ x0.toInt ≤ (21 : Int)) (ex1 : (-1 : Int) ≤ x1.toInt ∧ x1.toInt ≤ (21 : Int)) (ex2 : (-1 : Int) ≤ x2.toInt ∧ x2.toInt ≤ (21 : Int)) (ex3 : (-1 : Int) ≤ x3.toInt ∧ x3.toInt ≤ (21 : Int)) (ex4 : (-2147483648 : Int) ≤ x4.toInt ∧ x4.toInt ≤ (-2 : Int)) : Met l yX4_get wbX4_get ({ frames := 0, cells := 0, slots := 0, locals := 0 }) (va_Pc [.ref h0, .int 0] (fun U => U.heap.size = sz ∧ va_P (dC, dI) vwCl [(h0, .inr (11, [.ref h1, .int 6])), (h1, .inl (cc0, 6, .inl (upd (upd (upd (upd (upd (upd (fun _ => 0) 0 x0) 1 x1) 2 x2) 3 x3) 4 x4) 5 x5)))] U.heap ∧ va_K (dC, dI) vwCl [(cc0, .int)] U ∧ va_D (fun _ => True) [(h0, .inr (11, [.ref h1, .int 6])), (h1, .inl (cc0, 6, .inl (upd (upd (upd (upd (upd (upd (fun _ => 0) 0 x0) 1 x1) 2 x2) 3 x3) 4 x4) 5 x5)))] ∧ ns_F g (va_A [(h0, .inr (11, [.ref h1, .int 6])), (h1, .inl (cc0, 6, .inl (upd (upd (upd (upd (upd (upd (fun _ => 0) 0 x0) 1 x1) 2 x2) 3 x3) 4 x4) 5 x5)))] sz) U U.heap)) (va_Qi (fun (r : Int32) (_ : Unit) => r = x0) (fun _ t => va_P (dC, dI) vwCl [(h0, .inr (11, [.ref h1, .int 6])), (h1, .inl (cc0, 6, .inl (upd (upd (upd (upd (upd (upd (fun _ => 0) 0 x0) 1 x1) 2 x2) 3 x3) 4 x4) 5 x5)))] t.heap ∧ va_K (dC, dI) vwCl [(cc0, .int)] t ∧ va_D (va_A [(h0, .inr (11, [.ref h1, .int 6])), (h1, .inl (cc0, 6, .inl (upd (upd (upd (upd (upd (upd (fun _ => 0) 0 x0) 1 x1) 2 x2) 3 x3) 4 x4) 5 x5)))] sz) [(h0, .inr (11, [.ref h1, .int 6])), (h1, .inl (cc0, 6, .inl (upd (upd (upd (upd (upd (upd (fun _ => 0) 0 x0) 1 x1) 2 x2) 3 x3) 4 x4) 5 x5)))]) (va_A [(h0, .inr (11, [.ref h1, .int 6])), (h1, .inl (cc0, 6, .inl (upd (upd (upd (upd (upd (upd (fun _ => 0) 0 x0) 1 x1) 2 x2) 3 x3) 4 x4) 5 x5)))] sz)) 0 0 (va_A [(h0, .inr (11, [.ref h1, .int 6])), (h1, .inl (cc0, 6, .inl (upd (upd (upd (upd (upd (upd (fun _ => 0) 0 x0) 1 x1) 2 x2) 3 x3) 4 x4) 5 x5)))] sz) := by
  refine Met.ofW (cc := cX4_get) (maxL := 2) (ret := (some .int)) (by decide) rfl ?_
  intro p e s m args below meth c s₁ B hml hv
  obtain ⟨rfl, hsz, hP, hK, hD0, hF⟩ := hv
  have hx := B.exec
  have hb := B.bytes
  have hr := B.returns
  have hts := atoms_spec (ws := wbX4_get) B.pre
  have hta : ∀ w ∈ wsALL, w.before _ s = true := fun w h => hts w (List.mem_cons_of_mem _ h)
  have hown : s.vm.findClass RX4 = some m.cls := findClass_of_methodNamed B.named
  have hlocks := B.notSynchronized
  subst hsz
  have hD := hD0.self (sz := s.heap.size)
  generalize hAe : va_A [(h0, .inr (11, [.ref h1, .int 6])), (h1, .inl (cc0, 6, .inl (upd (upd (upd (upd (upd (upd (fun _ => 0) 0 x0) 1 x1) 2 x2) 3 x3) 4 x4) 5 x5)))] s.heap.size = A at hD hF ⊢
  have hA : ∀ q : Nat, s.heap.size ≤ q → A q := fun q h => by rw [← hAe]; exact Or.inr h
  have hS : va_S A s.heap s.heap [] := va_S.rf
  have hP : va_P (dC, dI) vwCl [(h0, .inr (11, [.ref h1, .int 6])), (h1, .inl (cc0, 6, .inl (upd (upd (upd (upd (upd (upd (fun _ => 0) 0 x0) 1 x1) 2 x2) 3 x3) 4 x4) 5 x5)))] s.heap := hP
  have hl := lv_entry ([.ref h0, .int 0]) (n := 2) (Nat.le_of_ble_eq_true rfl)
  rw [lg_entry_eq]
  generalize (lg_sl ([.ref h0, .int 0]) ++ List.replicate (2 - (lg_sl ([.ref h0, .int 0])).length) Slot.unset).toArray = ls at hl ⊢
  have hl : lv_has ls 2 [(0, .ref h0), (1, .int 0)] := hl
  refine lv_iload_n hx hb dX4_get_0 rfl (lv_at hl 1 rfl) ?_
  refine lv_if_lt (tgt := 30) hx hb dX4_get_1 (by decide) (fun c1 => absurd c1 (by decide)) (fun c1 => ?_)
  refine lv_iload_n hx hb dX4_get_4 rfl (lv_at hl 1 rfl) ?_
  refine lv_aload_n hx hb dX4_get_5 rfl (lv_at hl 0 rfl) ?_
  refine va_get (D := (dC, dI)) (ci := 11) (v := .int 6) (C := RX4) (T := TX4) (N := 2) hx hb hta naX4 hown hK hP 0 rfl rfl 1 (by decide) (hta _ wm14) (fun _ h9 => h9) rfl dX4_get_6 ?_
  refine lv_icmp_ge (tgt := 30) hx hb dX4_get_9 (by decide) (fun c2 => absurd c2 (by decide)) (fun c2 => ?_)
  refine lv_iload_n hx hb dX4_get_12 rfl (lv_at hl 1 rfl) ?_
  refine lv_aload_n hx hb dX4_get_13 rfl (lv_at hl 0 rfl) ?_
  refine va_get (D := (dC, dI)) (ci := 11) (v := .ref h1) (C := RX4) (T := TX4) (N := 2) hx hb hta naX4 hown hK hP 0 rfl rfl 0 (by decide) (hta _ wm16) (fun _ h9 => h9) rfl dX4_get_14 ?_
  refine va_alen (v := 6) hx hb hK hP 1 0 rfl rfl (show Int32.ofNat 6 = 6 by decide) dX4_get_17 ?_
  refine lv_icmp_ge (tgt := 30) hx hb dX4_get_18 (by decide) (fun c3 => absurd c3 (by decide)) (fun c3 => ?_)
  refine lv_aload_n hx hb dX4_get_21 rfl (lv_at hl 0 rfl) ?_
  refine va_get (D := (dC, dI)) (ci := 11) (v := .ref h1) (C := RX4) (T := TX4) (N := 2) hx hb hta naX4 hown hK hP 0 rfl rfl 0 (by decide) (hta _ wm16) (fun _ h9 => h9) rfl dX4_get_22 ?_
  refine lv_iload_n hx hb dX4_get_25 rfl (lv_at hl 1 rfl) ?_
  refine va_iald hx hb hK hP 1 0 rfl rfl (vp_in_nI (n := 0) (by decide) (by decide)) dX4_get_26 ?_
  refine lv_topi (fun y4 ey4 => ?_)
  obtain rfl : x0 = y4 := ey4.symm
  refine lv_goto (tgt := 31) hx hb dX4_get_27 (by decide) ?_
  have hP9 := hP.sub (ws' := [(h0, .inr (11, [.ref h1, .int 6])), (h1, .inl (cc0, 6, .inl (upd (upd (upd (upd (upd (upd (fun _ => 0) 0 x0) 1 x1) 2 x2) 3 x3) 4 x4) 5 x5)))]) [0, 1] rfl
  have hD9 := hD.sub (ws' := [(h0, .inr (11, [.ref h1, .int 6])), (h1, .inl (cc0, 6, .inl (upd (upd (upd (upd (upd (upd (fun _ => 0) 0 x0) 1 x1) 2 x2) 3 x3) 4 x4) 5 x5)))]) [0, 1] (by decide) rfl
  have hK9 := hK.sub (tys' := [(cc0, .int)]) [0] rfl
  refine W.widen (k := 0) (n := 0) (Nat.le_of_ble_eq_true rfl) (Nat.le_of_ble_eq_true rfl) ?_
  exact W.iret (v := x0) hx hb hr (fun t ht hW => ⟨⟨_, (), rfl, rfl, by rw [ht]; exact hP9, va_K.moved hW.alike hK9, hD9⟩, hS.F ht⟩) hS.2.2 dX4_get_31
set_option maxHeartbeats 4000000 in
set_option maxRecDepth 100000 in
theorem kX4_get_38 (l : Launch) (dC : Nat → ClassId) (dI : Nat → Nat → Nat) (g : Nat → Nat) (sz : Nat) (h0 : Nat) (h1 : Nat) (cc0 : ClassId) (x0 : Int32) (x1 : Int32) (x2 : Int32) (x3 : Int32) (x4 : Int32) (x5 : Int32) (ex0 : (-1 : Int) ≤ x0.toInt ∧ x0.toInt ≤ (21 : Int)) (ex1 : (-1 : Int) ≤ x1.toInt ∧ x1.toInt ≤ (21 : Int)) (ex2 : (-1 : Int) ≤ x2.toInt ∧ x2.toInt ≤ (21 : Int)) (ex3 : (-1 : Int) ≤ x3.toInt ∧ x3.toInt ≤ (21 : Int)) (ex4 : (22 : Int) ≤ x4.toInt ∧ x4.toInt ≤ (2147483647 : Int)) : Met l yX4_get wbX4_get ({ frames := 0, cells := 0, slots := 0, locals := 0 }) (va_Pc [.ref h0, .int 4] (fun U => U.heap.size = sz ∧ va_P (dC, dI) vwCl [(h0, .inr (11, [.ref h1, .int 6])), (h1, .inl (cc0, 6, .inl (upd (upd (upd (upd (upd (upd (fun _ => 0) 0 x0) 1 x1) 2 x2) 3 x3) 4 x4) 5 x5)))] U.heap ∧ va_K (dC, dI) vwCl [(cc0, .int)] U ∧ va_D (fun _ => True) [(h0, .inr (11, [.ref h1, .int 6])), (h1, .inl (cc0, 6, .inl (upd (upd (upd (upd (upd (upd (fun _ => 0) 0 x0) 1 x1) 2 x2) 3 x3) 4 x4) 5 x5)))] ∧ ns_F g (va_A [(h0, .inr (11, [.ref h1, .int 6])), (h1, .inl (cc0, 6, .inl (upd (upd (upd (upd (upd (upd (fun _ => 0) 0 x0) 1 x1) 2 x2) 3 x3) 4 x4) 5 x5)))] sz) U U.heap)) (va_Qi (fun (r : Int32) (_ : Unit) => r = x4) (fun _ t => va_P (dC, dI) vwCl [(h0, .inr (11, [.ref h1, .int 6])), (h1, .inl (cc0, 6, .inl (upd (upd (upd (upd (upd (upd (fun _ => 0) 0 x0) 1 x1) 2 x2) 3 x3) 4 x4) 5 x5)))] t.heap ∧ va_K (dC, dI) vwCl [(cc0, .int)] t ∧ va_D (va_A [(h0, .inr (11, [.ref h1, .int 6])), (h1, .inl (cc0, 6, .inl (upd (upd (upd (upd (upd (upd (fun _ => 0) 0 x0) 1 x1) 2 x2) 3 x3) 4 x4) 5 x5)))] sz) [(h0, .inr (11, [.ref h1, .int 6])), (h1, .inl (cc0, 6, .inl (upd (upd (upd (upd (upd (upd (fun _ => 0) 0 x0) 1 x1) 2 x2) 3 x3) 4 x4) 5 x5)))]) (va_A [(h0, .inr (11, [.ref h1, .int 6])), (h1, .inl (cc0, 6, .inl (upd (upd (upd (upd (upd (upd (fun _ => 0) 0 x0) 1 x1) 2 x2) 3 x3) 4 x4) 5 x5)))] sz)) 0 0 (va_A [(h0, .inr (11, [.ref h1, .int 6])), (h1, .inl (cc0, 6, .inl (upd (upd (upd (upd (upd (upd (fun _ => 0) 0 x0) 1 x1) 2 x2) 3 x3) 4 x4) 5 x5)))] sz) := by
  refine Met.ofW (cc := cX4_get) (maxL := 2) (ret := (some .int)) (by decide) rfl ?_
  intro p e s m args below meth c s₁ B hml hv
  obtain ⟨rfl, hsz, hP, hK, hD0, hF⟩ := hv
  have hx := B.exec
  have hb := B.bytes
  have hr := B.returns
  have hts := atoms_spec (ws := wbX4_get) B.pre
  have hta : ∀ w ∈ wsALL, w.before _ s = true := fun w h => hts w (List.mem_cons_of_mem _ h)
  have hown : s.vm.findClass RX4 = some m.cls := findClass_of_methodNamed B.named
  have hlocks := B.notSynchronized
  subst hsz
  have hD := hD0.self (sz := s.heap.size)
  generalize hAe : va_A [(h0, .inr (11, [.ref h1, .int 6])), (h1, .inl (cc0, 6, .inl (upd (upd (upd (upd (upd (upd (fun _ => 0) 0 x0) 1 x1) 2 x2) 3 x3) 4 x4) 5 x5)))] s.heap.size = A at hD hF ⊢
  have hA : ∀ q : Nat, s.heap.size ≤ q → A q := fun q h => by rw [← hAe]; exact Or.inr h
  have hS : va_S A s.heap s.heap [] := va_S.rf
  have hP : va_P (dC, dI) vwCl [(h0, .inr (11, [.ref h1, .int 6])), (h1, .inl (cc0, 6, .inl (upd (upd (upd (upd (upd (upd (fun _ => 0) 0 x0) 1 x1) 2 x2) 3 x3) 4 x4) 5 x5)))] s.heap := hP
  have hl := lv_entry ([.ref h0, .int 4]) (n := 2) (Nat.le_of_ble_eq_true rfl)
  rw [lg_entry_eq]
  generalize (lg_sl ([.ref h0, .int 4]) ++ List.replicate (2 - (lg_sl ([.ref h0, .int 4])).length) Slot.unset).toArray = ls at hl ⊢
  have hl : lv_has ls 2 [(0, .ref h0), (1, .int 4)] := hl
  refine lv_iload_n hx hb dX4_get_0 rfl (lv_at hl 1 rfl) ?_
  refine lv_if_lt (tgt := 30) hx hb dX4_get_1 (by decide) (fun c1 => absurd c1 (by decide)) (fun c1 => ?_)
  refine lv_iload_n hx hb dX4_get_4 rfl (lv_at hl 1 rfl) ?_
  refine lv_aload_n hx hb dX4_get_5 rfl (lv_at hl 0 rfl) ?_
  refine va_get (D := (dC, dI)) (ci := 11) (v := .int 6) (C := RX4) (T := TX4) (N := 2) hx hb hta naX4 hown hK hP 0 rfl rfl 1 (by decide) (hta _ wm14) (fun _ h9 => h9) rfl dX4_get_6 ?_
  refine lv_icmp_ge (tgt := 30) hx hb dX4_get_9 (by decide) (fun c2 => absurd c2 (by decide)) (fun c2 => ?_)
  refine lv_iload_n hx hb dX4_get_12 rfl (lv_at hl 1 rfl) ?_
  refine lv_aload_n hx hb dX4_get_13 rfl (lv_at hl 0 rfl) ?_
  refine va_get (D := (dC, dI)) (ci := 11) (v := .ref h1) (C := RX4) (T := TX4) (N := 2) hx hb hta naX4 hown hK hP 0 rfl rfl 0 (by decide) (hta _ wm16) (fun _ h9 => h9) rfl dX4_get_14 ?_
  refine va_alen (v := 6) hx hb hK hP 1 0 rfl rfl (show Int32.ofNat 6 = 6 by decide) dX4_get_17 ?_
  refine lv_icmp_ge (tgt := 30) hx hb dX4_get_18 (by decide) (fun c3 => absurd c3 (by decide)) (fun c3 => ?_)
  refine lv_aload_n hx hb dX4_get_21 rfl (lv_at hl 0 rfl) ?_
  refine va_get (D := (dC, dI)) (ci := 11) (v := .ref h1) (C := RX4) (T := TX4) (N := 2) hx hb hta naX4 hown hK hP 0 rfl rfl 0 (by decide) (hta _ wm16) (fun _ h9 => h9) rfl dX4_get_22 ?_
  refine lv_iload_n hx hb dX4_get_25 rfl (lv_at hl 1 rfl) ?_
  refine va_iald hx hb hK hP 1 0 rfl rfl (vp_in_nI (n := 4) (by decide) (by decide)) dX4_get_26 ?_
  refine lv_topi (fun y4 ey4 => ?_)
  obtain rfl : x4 = y4 := ey4.symm
  refine lv_goto (tgt := 31) hx hb dX4_get_27 (by decide) ?_
  have hP9 := hP.sub (ws' := [(h0, .inr (11, [.ref h1, .int 6])), (h1, .inl (cc0, 6, .inl (upd (upd (upd (upd (upd (upd (fun _ => 0) 0 x0) 1 x1) 2 x2) 3 x3) 4 x4) 5 x5)))]) [0, 1] rfl
  have hD9 := hD.sub (ws' := [(h0, .inr (11, [.ref h1, .int 6])), (h1, .inl (cc0, 6, .inl (upd (upd (upd (upd (upd (upd (fun _ => 0) 0 x0) 1 x1) 2 x2) 3 x3) 4 x4) 5 x5)))]) [0, 1] (by decide) rfl
  have hK9 := hK.sub (tys' := [(cc0, .int)]) [0] rfl
  refine W.widen (k := 0) (n := 0) (Nat.le_of_ble_eq_true rfl) (Nat.le_of_ble_eq_true rfl) ?_
  exact W.iret (v := x4) hx hb hr (fun t ht hW => ⟨⟨_, (), rfl, rfl, by rw [ht]; exact hP9, va_K.moved hW.alike hK9, hD9⟩, hS.F ht⟩) hS.2.2 dX4_get_31
set_option maxHeartbeats 4000000 in
set_option maxRecDepth 100000 in
theorem kX4_get_48 (l : Launch) (dC : Nat → ClassId) (dI : Nat → Nat → Nat) (g : Nat → Nat) (sz : Nat) (h0 : Nat) (h1 : Nat) (cc0 : ClassId) (x0 : Int32) (x1 : Int32) (x2 : Int32) (x3 : Int32) (x4 : Int32) (x5 : Int32) (ex0 : (22 : Int) ≤ x0.toInt ∧ x0.toInt ≤ (2147483647 : Int)) : Met l yX4_get wbX4_get ({ frames := 0, cells := 0, slots := 0, locals := 0 }) (va_Pc [.ref h0, .int 0] (fun U => U.heap.size = sz ∧ va_P (dC, dI) vwCl [(h0, .inr (11, [.ref h1, .int 6])), (h1, .inl (cc0, 6, .inl (upd (upd (upd (upd (upd (upd (fun _ => 0) 0 x0) 1 x1) 2 x2) 3 x3) 4 x4) 5 x5)))] U.heap ∧ va_K (dC, dI) vwCl [(cc0, .int)] U ∧ va_D (fun _ => True) [(h0, .inr (11, [.ref h1, .int 6])), (h1, .inl (cc0, 6, .inl (upd (upd (upd (upd (upd (upd (fun _ => 0) 0 x0) 1 x1) 2 x2) 3 x3) 4 x4) 5 x5)))] ∧ ns_F g (va_A [(h0, .inr (11, [.ref h1, .int 6])), (h1, .inl (cc0, 6, .inl (upd (upd (upd (upd (upd (upd (fun _ => 0) 0 x0) 1 x1) 2 x2) 3 x3) 4 x4) 5 x5)))] sz) U U.heap)) (va_Qi (fun (r : Int32) (_ : Unit) => r = x0) (fun _ t => va_P (dC, dI) vwCl [(h0, .inr (11, [.ref h1, .int 6])), (h1, .inl (cc0, 6, .inl (upd (upd (upd (upd (upd (upd (fun _ => 0) 0 x0) 1 x1) 2 x2) 3 x3) 4 x4) 5 x5)))] t.heap ∧ va_K (dC, dI) vwCl [(cc0, .int)] t ∧ va_D (va_A [(h0, .inr (11, [.ref h1, .int 6])), (h1, .inl (cc0, 6, .inl (upd (upd (upd (upd (upd (upd (fun _ => 0) 0 x0) 1 x1) 2 x2) 3 x3) 4 x4) 5 x5)))] sz) [(h0, .inr (11, [.ref h1, .int 6])), (h1, .inl (cc0, 6, .inl (upd (upd (upd (upd (upd (upd (fun _ => 0) 0 x0) 1 x1) 2 x2) 3 x3) 4 x4) 5 x5)))]) (va_A [(h0, .inr (11, [.ref h1, .int 6])), (h1, .inl (cc0, 6, .inl (upd (upd (upd (upd (upd (upd (fun _ => 0) 0 x0) 1 x1) 2 x2) 3 x3) 4 x4) 5 x5)))] sz)) 0 0 (va_A [(h0, .inr (11, [.ref h1, .int 6])), (h1, .inl (cc0, 6, .inl (upd (upd (upd (upd (upd (upd (fun _ => 0) 0 x0) 1 x1) 2 x2) 3 x3) 4 x4) 5 x5)))] sz) := by
  refine Met.ofW (cc := cX4_get) (maxL := 2) (ret := (some .int)) (by decide) rfl ?_
  intro p e s m args below meth c s₁ B hml hv
  obtain ⟨rfl, hsz, hP, hK, hD0, hF⟩ := hv
  have hx := B.exec
  have hb := B.bytes
  have hr := B.returns
  have hts := atoms_spec (ws := wbX4_get) B.pre
  have hta : ∀ w ∈ wsALL, w.before _ s = true := fun w h => hts w (List.mem_cons_of_mem _ h)
  have hown : s.vm.findClass RX4 = some m.cls := findClass_of_methodNamed B.named
  have hlocks := B.notSynchronized
  subst hsz
  have hD := hD0.self (sz := s.heap.size)
  generalize hAe : va_A [(h0, .inr (11, [.ref h1, .int 6])), (h1, .inl (cc0, 6, .inl (upd (upd (upd (upd (upd (upd (fun _ => 0) 0 x0) 1 x1) 2 x2) 3 x3) 4 x4) 5 x5)))] s.heap.size = A at hD hF ⊢
  have hA : ∀ q : Nat, s.heap.size ≤ q → A q := fun q h => by rw [← hAe]; exact Or.inr h
  have hS : va_S A s.heap s.heap [] := va_S.rf
  have hP : va_P (dC, dI) vwCl [(h0, .inr (11, [.ref h1, .int 6])), (h1, .inl (cc0, 6, .inl (upd (upd (upd (upd (upd (upd (fun _ => 0) 0 x0) 1 x1) 2 x2) 3 x3) 4 x4) 5 x5)))] s.heap := hP
  have hl := lv_entry ([.ref h0, .int 0]) (n := 2) (Nat.le_of_ble_eq_true rfl)
  rw [lg_entry_eq]
  generalize (lg_sl ([.ref h0, .int 0]) ++ List.replicate (2 - (lg_sl ([.ref h0, .int 0])).length) Slot.unset).toArray = ls at hl ⊢
  have hl : lv_has ls 2 [(0, .ref h0), (1, .int 0)] := hl
  refine lv_iload_n hx hb dX4_get_0 rfl (lv_at hl 1 rfl) ?_
  refine lv_if_lt (tgt := 30) hx hb dX4_get_1 (by decide) (fun c1 => absurd c1 (by decide)) (fun c1 => ?_)
  refine lv_iload_n hx hb dX4_get_4 rfl (lv_at hl 1 rfl) ?_
  refine lv_aload_n hx hb dX4_get_5 rfl (lv_at hl 0 rfl) ?_
  refine va_get (D := (dC, dI)) (ci := 11) (v := .int 6) (C := RX4) (T := TX4) (N := 2) hx hb hta naX4 hown hK hP 0 rfl rfl 1 (by decide) (hta _ wm14) (fun _ h9 => h9) rfl dX4_get_6 ?_
  refine lv_icmp_ge (tgt := 30) hx hb dX4_get_9 (by decide) (fun c2 => absurd c2 (by decide)) (fun c2 => ?_)
  refine lv_iload_n hx hb dX4_get_12 rfl (lv_at hl 1 rfl) ?_
  refine lv_aload_n hx hb dX4_get_13 rfl (lv_at hl 0 rfl) ?_
  refine va_get (D := (dC, dI)) (ci := 11) (v := .ref h1) (C := RX4) (T := TX4) (N := 2) hx hb hta naX4 hown hK hP 0 rfl rfl 0 (by decide) (hta _ wm16) (fun _ h9 => h9) rfl dX4_get_14 ?_
  refine va_alen (v := 6) hx hb hK hP 1 0 rfl rfl (show Int32.ofNat 6 = 6 by decide) dX4_get_17 ?_
  refine lv_icmp_ge (tgt := 30) hx hb dX4_get_18 (by decide) (fun c3 => absurd c3 (by decide)) (fun c3 => ?_)
  refine lv_aload_n hx hb dX4_get_21 rfl (lv_at hl 0 rfl) ?_
  refine va_get (D := (dC, dI)) (ci := 11) (v := .ref h1) (C := RX4) (T := TX4) (N := 2) hx hb hta naX4 hown hK hP 0 rfl rfl 0 (by decide) (hta _ wm16) (fun _ h9 => h9) rfl dX4_get_22 ?_
  refine lv_iload_n hx hb dX4_get_25 rfl (lv_at hl 1 rfl) ?_
  refine va_iald hx hb hK hP 1 0 rfl rfl (vp_in_nI (n := 0) (by decide) (by decide)) dX4_get_26 ?_
  refine lv_topi (fun y4 ey4 => ?_)
  obtain rfl : x0 = y4 := ey4.symm
  refine lv_goto (tgt := 31) hx hb dX4_get_27 (by decide) ?_
  have hP9 := hP.sub (ws' := [(h0, .inr (11, [.ref h1, .int 6])), (h1, .inl (cc0, 6, .inl (upd (upd (upd (upd (upd (upd (fun _ => 0) 0 x0) 1 x1) 2 x2) 3 x3) 4 x4) 5 x5)))]) [0, 1] rfl
  have hD9 := hD.sub (ws' := [(h0, .inr (11, [.ref h1, .int 6])), (h1, .inl (cc0, 6, .inl (upd (upd (upd (upd (upd (upd (fun _ => 0) 0 x0) 1 x1) 2 x2) 3 x3) 4 x4) 5 x5)))]) [0, 1] (by decide) rfl
  have hK9 := hK.sub (tys' := [(cc0, .int)]) [0] rfl
  refine W.widen (k := 0) (n := 0) (Nat.le_of_ble_eq_true rfl) (Nat.le_of_ble_eq_true rfl) ?_
  exact W.iret (v := x0) hx hb hr (fun t ht hW => ⟨⟨_, (), rfl, rfl, by rw [ht]; exact hP9, va_K.moved hW.alike hK9, hD9⟩, hS.F ht⟩) hS.2.2 dX4_get_31
set_option maxHeartbeats 4000000 in
set_option maxRecDepth 100000 in
theorem kX4_init_10 (l : Launch) (dC : Nat → ClassId) (dI : Nat → Nat → Nat) (g : Nat → Nat) (sz : Nat) (h0 : Nat) (v0 : Value) (v1 : Value) : Met l yX4_init wbX4_init ({ frames := 1, cells := 1, slots := 6000, locals := 12 }) (va_Pc [.ref h0, .int 6000] (fun U => U.heap.size = sz ∧ va_P (dC, dI) vwCl [(h0, .inr (11, [v0, v1]))] U.heap ∧ va_K (dC, dI) vwCl [] U ∧ va_D (fun _ => True) [(h0, .inr (11, [v0, v1]))] ∧ ns_F g (va_A [(h0, .inr (11, [v0, v1]))] sz) U U.heap)) (va_Qv (fun _ : Unit => True) (fun _ t => ∃ k0 : Nat, ∃ kc1 : ClassId, va_P (dC, dI) vwCl [(h0, .inr (11, [.ref k0, .int 0])), (k0, .inl (kc1, 6000, .inl (fun _ => 0)))] t.heap ∧ va_K (dC, dI) vwCl [(kc1, .int)] t ∧ va_D (va_A [(h0, .inr (11, [v0, v1]))] sz) [(h0, .inr (11, [.ref k0, .int 0])), (k0, .inl (kc1, 6000, .inl (fun _ => 0)))]) (va_A [(h0, .inr (11, [v0, v1]))] sz)) 1 6000 (va_A [(h0, .inr (11, [v0, v1]))] sz) := by
  refine Met.ofW (cc := cX4_init) (maxL := 2) (ret := none) (by decide) rfl ?_
  intro p e s m args below meth c s₁ B hml hv
  obtain ⟨rfl, hsz, hP, hK, hD0, hF⟩ := hv
  have hx := B.exec
  have hb := B.bytes
  have hr := B.returns
  have hts := atoms_spec (ws := wbX4_init) B.pre
  have hta : ∀ w ∈ wsALL, w.before _ s = true := fun w h => hts w (List.mem_cons_of_mem _ h)
  have hown : s.vm.findClass RX4 = some m.cls := findClass_of_methodNamed B.named
  have hlocks := B.notSynchronized
  have hin : meth.name = "<init>" := (name_of_methodNamed B.named B.method).1
  subst hsz
  have hD := hD0.self (sz := s.heap.size)
  generalize hAe : va_A [(h0, .inr (11, [v0, v1]))] s.heap.size = A at hD hF ⊢
  have hA : ∀ q : Nat, s.heap.size ≤ q → A q := fun q h => by rw [← hAe]; exact Or.inr h
  have hS : va_S A s.heap s.heap [] := va_S.rf
  have hP : va_P (dC, dI) vwCl [(h0, .inr (11, [v0, v1]))] s.heap := hP
  have hl := lv_entry ([.ref h0, .int 6000]) (n := 2) (Nat.le_of_ble_eq_true rfl)
  rw [lg_entry_eq]
  generalize (lg_sl ([.ref h0, .int 6000]) ++ List.replicate (2 - (lg_sl ([.ref h0, .int 6000])).length) Slot.unset).toArray = ls at hl ⊢
  have hl : lv_has ls 2 [(0, .ref h0), (1, .int 6000)] := hl
  refine lv_aload_n hx hb dX4_init_0 rfl (lv_at hl 0 rfl) ?_
  refine W.objInit hx hb hown (hta _ wm13) (hta _ wm4) (hta _ wm5) rfl (by rw [hml]; exact hl.1) rfl dX4_init_1 (Nat.le_of_ble_eq_true rfl) (Nat.le_of_ble_eq_true rfl) ?_
  refine W.eq (g2 := F0 m 4 ls []) rfl ?_
  refine lv_aload_n hx hb dX4_init_4 rfl (lv_at hl 0 rfl) ?_
  refine lv_iconst (v := 0) hx hb dX4_init_5 (by decide) ?_
  refine va_put (D := (dC, dI)) (ci := 11) (v := .int 0) (ty := .int) (C := RX4) (T := TX4) (N := 2) hx hb hta naX4 tyX4 tyX4_ok nmX4 hown hK hP hD hS 0 rfl rfl 1 (by decide) (hta _ wm14) (fun _ h9 => h9) rfl (by decide +kernel) rfl rfl (Nat.le_of_ble_eq_true rfl) dX4_init_6 (fun H locs hP hD hS => ?_)
  have hP : va_P (dC, dI) vwCl [(h0, .inr (11, [v0, .int 0]))] H := hP
  have hD : va_D A [(h0, .inr (11, [v0, .int 0]))] := hD
  refine lv_aload_n hx hb dX4_init_9 rfl (lv_at hl 0 rfl) ?_
  refine lv_iload_n hx hb dX4_init_10 rfl (lv_at hl 1 rfl) ?_
  refine lv_if_le (tgt := 18) hx hb dX4_init_11 (by decide) (fun c1 => absurd c1 (by decide)) (fun c1 => ?_)
  refine lv_iload_n hx hb dX4_init_14 rfl (lv_at hl 1 rfl) ?_
  refine lv_goto (tgt := 19) hx hb dX4_init_15 (by decide) ?_
  refine va_newa (atype := .int) hx hb (hta _ wm15) rfl hK hP hD hS hA (N' := 6000) (a0 := (6000, .inl (fun _ => 0))) (fun _ => rfl) (by decide) (by decide) (Nat.le_of_ble_eq_true rfl) (Nat.le_of_ble_eq_true rfl) (Nat.le_of_ble_eq_true rfl) dX4_init_19 (fun q2 cyq2 H hK hP hD hS => ?_)
  have hP : va_P (dC, dI) vwCl [(h0, .inr (11, [v0, .int 0])), (q2, .inl (cyq2, 6000, .inl (fun _ => 0)))] H := hP
  have hD : va_D A [(h0, .inr (11, [v0, .int 0])), (q2, .inl (cyq2, 6000, .inl (fun _ => 0)))] := hD
  have hK : va_K (dC, dI) vwCl [(cyq2, .int)] s := hK
  refine W.widen (k := 1) (n := 6000) (Nat.le_of_ble_eq_true rfl) (Nat.le_of_ble_eq_true rfl) ?_
  refine va_putF (D := (dC, dI)) (ci := 11) (v := .ref q2) (ty := .array (.int)) (C := RX4) (T := TX4) (N := 2) hx hb hta naX4 tyX4 tyX4_ok nmX4 hown hK hP hD hS 0 rfl rfl 0 (by decide) (hta _ wm16) (fun _ h9 => h9) rfl hin rfl (by decide +kernel) rfl rfl (Nat.le_of_ble_eq_true rfl) dX4_init_21 (fun H locs hP hD hS => ?_)
  have hP : va_P (dC, dI) vwCl [(h0, .inr (11, [.ref q2, .int 0])), (q2, .inl (cyq2, 6000, .inl (fun _ => 0)))] H := hP
  have hD : va_D A [(h0, .inr (11, [.ref q2, .int 0])), (q2, .inl (cyq2, 6000, .inl (fun _ => 0)))] := hD
  have hP9 := hP.sub (ws' := [(h0, .inr (11, [.ref q2, .int 0])), (q2, .inl (cyq2, 6000, .inl (fun _ => 0)))]) [0, 1] rfl
  have hD9 := hD.sub (ws' := [(h0, .inr (11, [.ref q2, .int 0])), (q2, .inl (cyq2, 6000, .inl (fun _ => 0)))]) [0, 1] (by decide) rfl
  have hK9 := hK.sub (tys' := [(cyq2, .int)]) [0] rfl
  refine W.widen (k := 1) (n := 6000) (Nat.le_of_ble_eq_true rfl) (Nat.le_of_ble_eq_true rfl) ?_
  exact W.vret hx hb hr (fun t ht hW => ⟨⟨(), rfl, trivial, q2, cyq2, by rw [ht]; exact hP9, va_K.moved hW.alike hK9, hD9⟩, hS.F ht⟩) hS.2.2 dX4_init_24
set_option maxHeartbeats 4000000 in
set_option maxRecDepth 100000 in
theorem kX4_cut_7 (l : Launch) (dC : Nat → ClassId) (dI : Nat → Nat → Nat) (g : Nat → Nat) (sz : Nat) (h0 : Nat) (x0 : Int32) (v0 : Value) (x1 : Int32) (ex0 : (0 : Int) ≤ x0.toInt ∧ x0.toInt ≤ (4 : Int)) (ex1 : (0 : Int) ≤ x1.toInt ∧ x1.toInt ≤ (3 : Int)) : Met l yX4_cut wbX4_cut ({ frames := 0, cells := 0, slots := 0, locals := 0 }) (va_Pc [.ref h0, .int x0] (fun U => U.heap.size = sz ∧ va_P (dC, dI) vwCl [(h0, .inr (11, [v0, .int x1]))] U.heap ∧ va_K (dC, dI) vwCl [] U ∧ va_D (fun _ => True) [(h0, .inr (11, [v0, .int x1]))] ∧ ns_F g (va_A [(h0, .inr (11, [v0, .int x1]))] sz) U U.heap)) (va_Qv (fun _ : Unit => True) (fun _ t => va_P (dC, dI) vwCl [(h0, .inr (11, [v0, .int (ns_cut x1 x0)]))] t.heap ∧ va_K (dC, dI) vwCl [] t ∧ va_D (va_A [(h0, .inr (11, [v0, .int x1]))] sz) [(h0, .inr (11, [v0, .int (ns_cut x1 x0)]))]) (va_A [(h0, .inr (11, [v0, .int x1]))] sz)) 0 0 (va_A [(h0, .inr (11, [v0, .int x1]))] sz) := by
  refine Met.ofW (cc := cX4_cut) (maxL := 2) (ret := none) (by decide) rfl ?_
  intro p e s m args below meth c s₁ B hml hv
  obtain ⟨rfl, hsz, hP, hK, hD0, hF⟩ := hv
  have hx := B.exec
  have hb := B.bytes
  have hr := B.returns
  have hts := atoms_spec (ws := wbX4_cut) B.pre
  have hta : ∀ w ∈ wsALL, w.before _ s = true := fun w h => hts w (List.mem_cons_of_mem _ h)
  have hown : s.vm.findClass RX4 = some m.cls := findClass_of_methodNamed B.named
  have hlocks := B.notSynchronized
  subst hsz
  have hD := hD0.self (sz := s.heap.size)
  generalize hAe : va_A [(h0, .inr (11, [v0, .int x1]))] s.heap.size = A at hD hF ⊢
  have hA : ∀ q : Nat, s.heap.size ≤ q → A q := fun q h => by rw [← hAe]; exact Or.inr h
  have hS : va_S A s.heap s.heap [] := va_S.rf
  have hP : va_P (dC, dI) vwCl [(h0, .inr (11, [v0, .int x1]))] s.heap := hP
  have hl := lv_entry ([.ref h0, .int x0]) (n := 2) (Nat.le_of_ble_eq_true rfl)
  rw [lg_entry_eq]
  generalize (lg_sl ([.ref h0, .int x0]) ++ List.replicate (2 - (lg_sl ([.ref h0, .int x0])).length) Slot.unset).toArray = ls at hl ⊢
  have hl : lv_has ls 2 [(0, .ref h0), (1, .int x0)] := hl
  refine lv_iload_n hx hb dX4_cut_0 rfl (lv_at hl 1 rfl) ?_
  refine lv_if_lt (tgt := 17) hx hb dX4_cut_1 (by decide) (fun c1 => absurd c1 (fun z => absurd (show x0.toInt < (0 : Int) from Int32.lt_iff_toInt_lt.mp z) (by omega))) (fun c1 => ?_)
  refine lv_iload_n hx hb dX4_cut_4 rfl (lv_at hl 1 rfl) ?_
  refine lv_aload_n hx hb dX4_cut_5 rfl (lv_at hl 0 rfl) ?_
  refine va_get (D := (dC, dI)) (ci := 11) (v := .int x1) (C := RX4) (T := TX4) (N := 2) hx hb hta naX4 hown hK hP 0 rfl rfl 1 (by decide) (hta _ wm14) (fun _ h9 => h9) rfl dX4_cut_6 ?_
  refine lv_icmp_ge (tgt := 17) hx hb dX4_cut_9 (by decide) (fun c2 => ?_) (fun c2 => ?_)
  · have ec2 : x1.toInt ≤ x0.toInt := Int32.le_iff_toInt_le.mp c2
    have w3 : x1 = (ns_cut x1 x0) := (by unfold ns_cut; (repeat' split) <;> first | rfl | (exfalso; omega))
    have hP : va_P (dC, dI) vwCl [(h0, .inr (11, [v0, .int (ns_cut x1 x0)]))] s.heap := by rw [← w3]; exact hP
    have hD : va_D A [(h0, .inr (11, [v0, .int (ns_cut x1 x0)]))] := by rw [← w3]; exact hD
    have hP9 := hP.sub (ws' := [(h0, .inr (11, [v0, .int (ns_cut x1 x0)]))]) [0] rfl
    have hD9 := hD.sub (ws' := [(h0, .inr (11, [v0, .int (ns_cut x1 x0)]))]) [0] (by decide) rfl
    have hK9 := hK.sub (tys' := []) [] rfl
    refine W.widen (k := 0) (n := 0) (Nat.le_of_ble_eq_true rfl) (Nat.le_of_ble_eq_true rfl) ?_
    exact W.vret hx hb hr (fun t ht hW => ⟨⟨(), rfl, trivial, by rw [ht]; exact hP9, va_K.moved hW.alike hK9, hD9⟩, hS.F ht⟩) hS.2.2 dX4_cut_17
  · have ec2 : ¬ x1.toInt ≤ x0.toInt := fun z => c2 (Int32.le_iff_toInt_le.mpr z)
    refine lv_aload_n hx hb dX4_cut_12 rfl (lv_at hl 0 rfl) ?_
    refine lv_iload_n hx hb dX4_cut_13 rfl (lv_at hl 1 rfl) ?_
    refine va_put (D := (dC, dI)) (ci := 11) (v := .int x0) (ty := .int) (C := RX4) (T := TX4) (N := 2) hx hb hta naX4 tyX4 tyX4_ok nmX4 hown hK hP hD hS 0 rfl rfl 1 (by decide) (hta _ wm14) (fun _ h9 => h9) rfl (by decide +kernel) rfl rfl (Nat.le_of_ble_eq_true rfl) dX4_cut_14 (fun H locs hP hD hS => ?_)
    have hP : va_P (dC, dI) vwCl [(h0, .inr (11, [v0, .int x0]))] H := hP
    have hD : va_D A [(h0, .inr (11, [v0, .int x0]))] := hD
    have w4 : x0 = (ns_cut x1 x0) := (by unfold ns_cut; (repeat' split) <;> first | rfl | (exfalso; omega))
    have hP : va_P (dC, dI) vwCl [(h0, .inr (11, [v0, .int (ns_cut x1 x0)]))] H := by rw [← w4]; exact hP
    have hD : va_D A [(h0, .inr (11, [v0, .int (ns_cut x1 x0)]))] := by rw [← w4]; exact hD
    have hP9 := hP.sub (ws' := [(h0, .inr (11, [v0, .int (ns_cut x1 x0)]))]) [0] rfl
    have hD9 := hD.sub (ws' := [(h0, .inr (11, [v0, .int (ns_cut x1 x0)]))]) [0] (by decide) rfl
    have hK9 := hK.sub (tys' := []) [] rfl
    refine W.widen (k := 0) (n := 0) (Nat.le_of_ble_eq_true rfl) (Nat.le_of_ble_eq_true rfl) ?_
    exact W.vret hx hb hr (fun t ht hW => ⟨⟨(), rfl, trivial, by rw [ht]; exact hP9, va_K.moved hW.alike hK9, hD9⟩, hS.F ht⟩) hS.2.2 dX4_cut_17
set_option maxHeartbeats 4000000 in
set_option maxRecDepth 100000 in
theorem kJ5_ensureCapacityInternal_d00df (l : Launch) (dC : Nat → ClassId) (dI : Nat → Nat → Nat) (g : Nat → Nat) (sz : Nat) (h0 : Nat) (h1 : Nat) (v0 : Value) (v1 : Value) (cc0 : ClassId) (f0 : Nat → Int32) (hf0 : sb_Fit f0) : Met l yJ5_ensureCapacityInternal_d00df wbJ5_ensureCapacityInternal_d00df ({ frames := 0, cells := 0, slots := 0, locals := 0 }) (va_Pc [.ref h0, .int 1] (fun U => U.heap.size = sz ∧ va_P (dC, dI) vwCl [(h0, .inr (1, [.ref h1, .int 0, v0, v1])), (h1, .inl (cc0, 16, .inl f0))] U.heap ∧ va_K (dC, dI) vwCl [(cc0, .byte)] U ∧ va_D (fun _ => True) [(h0, .inr (1, [.ref h1, .int 0, v0, v1])), (h1, .inl (cc0, 16, .inl f0))] ∧ ns_F g (va_A [(h0, .inr (1, [.ref h1, .int 0, v0, v1])), (h1, .inl (cc0, 16, .inl f0))] sz) U U.heap)) (va_Qv (fun _ : Unit => True) (fun _ t => va_P (dC, dI) vwCl [(h0, .inr (1, [.ref h1, .int 0, v0, v1])), (h1, .inl (cc0, 16, .inl f0))] t.heap ∧ va_K (dC, dI) vwCl [(cc0, .byte)] t ∧ va_D (va_A [(h0, .inr (1, [.ref h1, .int 0, v0, v1])), (h1, .inl (cc0, 16, .inl f0))] sz) [(h0, .inr (1, [.ref h1, .int 0, v0, v1])), (h1, .inl (cc0, 16, .inl f0))]) (va_A [(h0, .inr (1, [.ref h1, .int 0, v0, v1])), (h1, .inl (cc0, 16, .inl f0))] sz)) 0 0 (va_A [(h0, .inr (1, [.ref h1, .int 0, v0, v1])), (h1, .inl (cc0, 16, .inl f0))] sz) := by
  refine Met.ofW (cc := cJ5_ensureCapacityInternal_d00df) (maxL := 3) (ret := none) (by decide) rfl ?_
  intro p e s m args below meth c s₁ B hml hv
  obtain ⟨rfl, hsz, hP, hK, hD0, hF⟩ := hv
  have hx := B.exec
  have hb := B.bytes
  have hr := B.returns
  have hts := atoms_spec (ws := wbJ5_ensureCapacityInternal_d00df) B.pre
  have hta : ∀ w ∈ wsALL, w.before _ s = true := fun w h => hts w (List.mem_cons_of_mem _ h)
  have hown : s.vm.findClass RJ5 = some m.cls := findClass_of_methodNamed B.named
  have hlocks := B.notSynchronized
  subst hsz
  have hD := hD0.self (sz := s.heap.size)
  generalize hAe : va_A [(h0, .inr (1, [.ref h1, .int 0, v0, v1])), (h1, .inl (cc0, 16, .inl f0))] s.heap.size = A at hD hF ⊢
  have hA : ∀ q : Nat, s.heap.size ≤ q → A q := fun q h => by rw [← hAe]; exact Or.inr h
  have hS : va_S A s.heap s.heap [] := va_S.rf
  have hP : va_P (dC, dI) vwCl [(h0, .inr (1, [.ref h1, .int 0, v0, v1])), (h1, .inl (cc0, 16, .inl f0))] s.heap := hP
  have hl := lv_entry ([.ref h0, .int 1]) (n := 3) (Nat.le_of_ble_eq_true rfl)
  rw [lg_entry_eq]
  generalize (lg_sl ([.ref h0, .int 1]) ++ List.replicate (3 - (lg_sl ([.ref h0, .int 1])).length) Slot.unset).toArray = ls at hl ⊢
  have hl : lv_has ls 3 [(0, .ref h0), (1, .int 1)] := hl
  refine lv_aload_n hx hb dJ5_ensureCapacityInternal_d00df_0 rfl (lv_at hl 0 rfl) ?_
  refine va_get (D := (dC, dI)) (ci := 1) (v := .ref h1) (C := RJ4) (T := TJ4) (N := 4) hx hb hta naJ4 hown hK hP 0 rfl rfl 0 (by decide) (hta _ wm141) (fun _ h9 => h9) rfl dJ5_ensureCapacityInternal_d00df_1 ?_
  refine va_alen (v := 16) hx hb hK hP 1 0 rfl rfl (show Int32.ofNat 16 = 16 by decide) dJ5_ensureCapacityInternal_d00df_4 ?_
  refine lv_aload_n hx hb dJ5_ensureCapacityInternal_d00df_5 rfl (lv_at hl 0 rfl) ?_
  refine va_get (D := (dC, dI)) (ci := 1) (v := .int 0) (C := RJ4) (T := TJ4) (N := 4) hx hb hta naJ4 hown hK hP 0 rfl rfl 1 (by decide) (hta _ wm142) (fun _ h9 => h9) rfl dJ5_ensureCapacityInternal_d00df_6 ?_
  refine lv_ishr hx hb dJ5_ensureCapacityInternal_d00df_9 ?_
  refine lv_topi (fun y1 ey1 => ?_)
  obtain rfl : y1 = 16 := ey1.trans (by decide)
  refine lv_istore_n (lv' := [(2, .int 16), (0, .ref h0), (1, .int 1)]) hx hb dJ5_ensureCapacityInternal_d00df_10 rfl hl (by decide) rfl (fun ls hl => ?_)
  refine lv_iload_n hx hb dJ5_ensureCapacityInternal_d00df_11 rfl (lv_at hl 2 rfl) ?_
  refine lv_iload_n hx hb dJ5_ensureCapacityInternal_d00df_12 rfl (lv_at hl 0 rfl) ?_
  refine lv_isub hx hb dJ5_ensureCapacityInternal_d00df_13 ?_
  refine lv_topi (fun y2 ey2 => ?_)
  obtain rfl : y2 = (-15) := ey2.trans (by decide)
  refine lv_if_le (tgt := 38) hx hb dJ5_ensureCapacityInternal_d00df_14 (by decide) (fun c3 => ?_) (fun c3 => absurd (by decide) c3)
  have hP9 := hP.sub (ws' := [(h0, .inr (1, [.ref h1, .int 0, v0, v1])), (h1, .inl (cc0, 16, .inl f0))]) [0, 1] rfl
  have hD9 := hD.sub (ws' := [(h0, .inr (1, [.ref h1, .int 0, v0, v1])), (h1, .inl (cc0, 16, .inl f0))]) [0, 1] (by decide) rfl
  have hK9 := hK.sub (tys' := [(cc0, .byte)]) [0] rfl
  refine W.widen (k := 0) (n := 0) (Nat.le_of_ble_eq_true rfl) (Nat.le_of_ble_eq_true rfl) ?_
  exact W.vret hx hb hr (fun t ht hW => ⟨⟨(), rfl, trivial, by rw [ht]; exact hP9, va_K.moved hW.alike hK9, hD9⟩, hS.F ht⟩) hS.2.2 dJ5_ensureCapacityInternal_d00df_38
set_option maxHeartbeats 4000000 in
set_option maxRecDepth 100000 in
theorem kX9_stateOf_2 (l : Launch) (dC : Nat → ClassId) (dI : Nat → Nat → Nat) (g : Nat → Nat) (sz : Nat) (h0 : Nat) (v0 : Value) (v1 : Value) (v2 : Value) (v3 : Value) (v4 : Value) (v5 : Value) (v6 : Value) (v7 : Value) (v8 : Value) (v9 : Value) (v10 : Value) (v11 : Value) (v12 : Value) (v13 : Value) (v14 : Value) : Met l yX9_stateOf wbX9_stateOf ({ frames := 0, cells := 0, slots := 0, locals := 0 }) (va_Pc [.ref h0, .int 1] (fun U => U.heap.size = sz ∧ va_P (dC, dI) vwCl [(h0, .inr (16, [v0, v1, v2, v3, v4, v5, v6, v7, v8, v9, v10, .int 20, v11, v12, v13, v14]))] U.heap ∧ va_K (dC, dI) vwCl [] U ∧ va_D (fun _ => True) [(h0, .inr (16, [v0, v1, v2, v3, v4, v5, v6, v7, v8, v9, v10, .int 20, v11, v12, v13, v14]))] ∧ ns_F g (va_A [(h0, .inr (16, [v0, v1, v2, v3, v4, v5, v6, v7, v8, v9, v10, .int 20, v11, v12, v13, v14]))] sz) U U.heap)) (va_Qi (fun (r : Int32) (_ : Unit) => r = 20) (fun _ t => va_P (dC, dI) vwCl [(h0, .inr (16, [v0, v1, v2, v3, v4, v5, v6, v7, v8, v9, v10, .int 20, v11, v12, v13, v14]))] t.heap ∧ va_K (dC, dI) vwCl [] t ∧ va_D (va_A [(h0, .inr (16, [v0, v1, v2, v3, v4, v5, v6, v7, v8, v9, v10, .int 20, v11, v12, v13, v14]))] sz) [(h0, .inr (16, [v0, v1, v2, v3, v4, v5, v6, v7, v8, v9, v10, .int 20, v11, v12, v13, v14]))]) (va_A [(h0, .inr (16, [v0, v1, v2, v3, v4, v5, v6, v7, v8, v9, v10, .int 20, v11, v12, v13, v14]))] sz)) 0 0 (va_A [(h0, .inr (16, [v0, v1, v2, v3, v4, v5, v6, v7, v8, v9, v10, .int 20, v11, v12, v13, v14]))] sz) := by
  refine Met.ofW (cc := cX9_stateOf) (maxL := 2) (ret := (some .int)) (by decide) rfl ?_
  intro p e s m args below meth c s₁ B hml hv
  obtain ⟨rfl, hsz, hP, hK, hD0, hF⟩ := hv
  have hx := B.exec
  have hb := B.bytes
  have hr := B.returns
  have hts := atoms_spec (ws := wbX9_stateOf) B.pre
  have hta : ∀ w ∈ wsALL, w.before _ s = true := fun w h => hts w (List.mem_cons_of_mem _ h)
  have hown : s.vm.findClass RX9 = some m.cls := findClass_of_methodNamed B.named
  have hlocks := B.notSynchronized
  subst hsz
  have hD := hD0.self (sz := s.heap.size)
  generalize hAe : va_A [(h0, .inr (16, [v0, v1, v2, v3, v4, v5, v6, v7, v8, v9, v10, .int 20, v11, v12, v13, v14]))] s.heap.size = A at hD hF ⊢
  have hA : ∀ q : Nat, s.heap.size ≤ q → A q := fun q h => by rw [← hAe]; exact Or.inr h
  have hS : va_S A s.heap s.heap [] := va_S.rf
  have hP : va_P (dC, dI) vwCl [(h0, .inr (16, [v0, v1, v2, v3, v4, v5, v6, v7, v8, v9, v10, .int 20, v11, v12, v13, v14]))] s.heap := hP
  have hl := lv_entry ([.ref h0, .int 1]) (n := 2) (Nat.le_of_ble_eq_true rfl)
  rw [lg_entry_eq]
  generalize (lg_sl ([.ref h0, .int 1]) ++ List.replicate (2 - (lg_sl ([.ref h0, .int 1])).length) Slot.unset).toArray = ls at hl ⊢
  have hl : lv_has ls 2 [(0, .ref h0), (1, .int 1)] := hl
  refine lv_iload_n hx hb dX9_stateOf_0 rfl (lv_at hl 1 rfl) ?_
  refine lv_tableIn (off := 51) (tgt := 52) hx hb dX9_stateOf_1 (by decide) (by decide) (by decide) (by decide) ?_
  refine lv_aload_n hx hb dX9_stateOf_52 rfl (lv_at hl 0 rfl) ?_
  refine va_get (D := (dC, dI)) (ci := 16) (v := .int 20) (C := RX9) (T := TX9) (N := 16) hx hb hta naX9 hown hK hP 0 rfl rfl 11 (by decide) (hta _ wm168) (fun _ h9 => h9) rfl dX9_stateOf_53 ?_
  have hP9 := hP.sub (ws' := [(h0, .inr (16, [v0, v1, v2, v3, v4, v5, v6, v7, v8, v9, v10, .int 20, v11, v12, v13, v14]))]) [0] rfl
  have hD9 := hD.sub (ws' := [(h0, .inr (16, [v0, v1, v2, v3, v4, v5, v6, v7, v8, v9, v10, .int 20, v11, v12, v13, v14]))]) [0] (by decide) rfl
  have hK9 := hK.sub (tys' := []) [] rfl
  refine W.widen (k := 0) (n := 0) (Nat.le_of_ble_eq_true rfl) (Nat.le_of_ble_eq_true rfl) ?_
  exact W.iret (v := 20) hx hb hr (fun t ht hW => ⟨⟨_, (), rfl, rfl, by rw [ht]; exact hP9, va_K.moved hW.alike hK9, hD9⟩, hS.F ht⟩) hS.2.2 dX9_stateOf_56
set_option maxHeartbeats 4000000 in
set_option maxRecDepth 100000 in
theorem kX9_ribbon_3 (l : Launch) (dC : Nat → ClassId) (dI : Nat → Nat → Nat) (g : Nat → Nat) (sz : Nat) (h0 : Nat) (x0 : Int32) (ex0 : (61 : Int) ≤ x0.toInt ∧ x0.toInt ≤ (2147483647 : Int)) (hlt : l.stackTraces = false) : vx_Met l yX9_ribbon wbX9_ribbon ({ frames := 6, cells := 1, slots := 6, locals := 82 }) (va_Pc [.ref h0, .int x0] (fun U => U.heap.size = sz ∧ va_P (dC, dI) vwCl [] U.heap ∧ va_K (dC, dI) vwCl [] U ∧ va_D (fun _ => True) [] ∧ ns_F g (va_A [] sz) U U.heap)) (va_Qv (fun _ : Unit => False) (fun _ _ => True) (va_A [] sz)) (vx_X (fun _ : Unit => True) (fun E _ _ => E = "java/lang/IllegalArgumentException") (va_A [] sz)) 1 6 (va_A [] sz) := by
  refine vx_ofW (cc := cX9_ribbon) (maxL := 3) (ret := (some .int)) (by decide) rfl ?_
  intro p e s m args below meth c s₁ B hml hnox hv
  obtain ⟨rfl, hsz, hP, hK, hD0, hF⟩ := hv
  have hx := B.exec
  have hb := B.bytes
  have hr := B.returns
  have hts := atoms_spec (ws := wbX9_ribbon) B.pre
  have hta : ∀ w ∈ wsALL, w.before _ s = true := fun w h => hts w (List.mem_cons_of_mem _ h)
  have hown : s.vm.findClass RX9 = some m.cls := findClass_of_methodNamed B.named
  have hlocks := B.notSynchronized
  subst hsz
  have hD := hD0.self (sz := s.heap.size)
  generalize hAe : va_A [] s.heap.size = A at hD hF ⊢
  have hA : ∀ q : Nat, s.heap.size ≤ q → A q := fun q h => by rw [← hAe]; exact Or.inr h
  have hS : va_S A s.heap s.heap [] := va_S.rf
  have hP : va_P (dC, dI) vwCl [] s.heap := hP
  have hl := lv_entry ([.ref h0, .int x0]) (n := 3) (Nat.le_of_ble_eq_true rfl)
  rw [lg_entry_eq]
  generalize (lg_sl ([.ref h0, .int x0]) ++ List.replicate (3 - (lg_sl ([.ref h0, .int x0])).length) Slot.unset).toArray = ls at hl ⊢
  have hl : lv_has ls 3 [(0, .ref h0), (1, .int x0)] := hl
  refine lv_iload_n hx hb dX9_ribbon_0 rfl (lv_at hl 1 rfl) ?_
  refine lv_iconst (v := 1) hx hb dX9_ribbon_1 (by decide) ?_
  refine lv_icmp_lt (tgt := 11) hx hb dX9_ribbon_2 (by decide) (fun c1 => absurd c1 (fun z => absurd (show x0.toInt < (1 : Int) from Int32.lt_iff_toInt_lt.mp z) (by omega))) (fun c1 => ?_)
  refine lv_iload_n hx hb dX9_ribbon_5 rfl (lv_at hl 1 rfl) ?_
  refine lv_bipush (v := 60) hx hb dX9_ribbon_6 (by decide) ?_
  refine lv_icmp_le (tgt := 21) hx hb dX9_ribbon_8 (by decide) (fun c2 => absurd c2 (fun z => absurd (show x0.toInt ≤ (60 : Int) from Int32.le_iff_toInt_le.mp z) (by omega))) (fun c2 => ?_)
  exact vx_throwS hx hb hlt (text := "ribbon is 1 to 60") (sa := (g 16)) (names := ["java/lang/RuntimeException", "java/lang/Exception"]) hown (by decide) (by decide) (hta _ wm225) (hta _ wm226) (ns_f24 hF) (vx_hat (B := [.declares ⟨"java/lang/RuntimeException", "<init>", "(Ljava/lang/String;)V"⟩, .declares ⟨"java/lang/Exception", "<init>", "(Ljava/lang/String;)V"⟩, .declares ⟨"java/lang/Throwable", "<init>", "(Ljava/lang/String;)V"⟩, .castable "java/lang/IllegalArgumentException" "java/lang/IllegalArgumentException"]) (fun w9 h9 => hta w9 (vm0 w9 h9)) (by decide +kernel) (vx_c (va_Nw.use rfl (ns_f12 hF)) (vx_c (va_Nw.use rfl (ns_f13 hF)) (vx_c (va_Nw.use rfl (ns_f14 hF)) (vx_c (va_Nw.use rfl (ns_f11 hF)) vx_n))))) (by decide +kernel) (ns_f18 hF) (ns_f19 hF) hS (by rw [hml]; exact hl.1) dX9_ribbon_11 dX9_ribbon_14 dX9_ribbon_15 dX9_ribbon_17 dX9_ribbon_20 (fun x hx => (hnox x hx).elim) (Nat.le_of_ble_eq_true rfl) (Nat.le_of_ble_eq_true rfl) (Nat.le_of_ble_eq_true rfl) (Nat.le_of_ble_eq_true rfl) hlocks (fun t9 hal hsz9 hk9 => ⟨(), trivial, rfl, Nat.le_trans hS.1 hsz9, fun q hq1 hq2 => (hk9 q (Nat.lt_of_lt_of_le hq1 hS.1)).trans (hS.2.1 q hq1 hq2)⟩) hS.2.2 (Nat.le_of_ble_eq_true rfl) (Nat.le_of_ble_eq_true rfl)
set_option maxHeartbeats 4000000 in
set_option maxRecDepth 100000 in
theorem kJ0_isEmpty_aae02_3 (l : Launch) (dC : Nat → ClassId) (dI : Nat → Nat → Nat) (g : Nat → Nat) (sz : Nat) (h0 : Nat) (h1 : Nat) (v0 : Value) (v1 : Value) (v2 : Value) (cc0 : ClassId) (f0 : Nat → Int32) (hf0 : sb_Fit f0) : Met l yJ0_isEmpty_aae02 wbJ0_isEmpty_aae02 ({ frames := 0, cells := 0, slots := 0, locals := 0 }) (va_Pc [.ref h0] (fun U => U.heap.size = sz ∧ va_P (dC, dI) vwCl [(h0, .inr (0, [.ref h1, v0, v1, v2])), (h1, .inl (cc0, 2, .inl f0))] U.heap ∧ va_K (dC, dI) vwCl [(cc0, .byte)] U ∧ va_D (fun _ => True) [(h0, .inr (0, [.ref h1, v0, v1, v2])), (h1, .inl (cc0, 2, .inl f0))] ∧ ns_F g (va_A [(h0, .inr (0, [.ref h1, v0, v1, v2])), (h1, .inl (cc0, 2, .inl f0))] sz) U U.heap)) (va_Qi (fun (r : Int32) (_ : Unit) => r = 0) (fun _ t => va_P (dC, dI) vwCl [(h0, .inr (0, [.ref h1, v0, v1, v2])), (h1, .inl (cc0, 2, .inl f0))] t.heap ∧ va_K (dC, dI) vwCl [(cc0, .byte)] t ∧ va_D (va_A [(h0, .inr (0, [.ref h1, v0, v1, v2])), (h1, .inl (cc0, 2, .inl f0))] sz) [(h0, .inr (0, [.ref h1, v0, v1, v2])), (h1, .inl (cc0, 2, .inl f0))]) (va_A [(h0, .inr (0, [.ref h1, v0, v1, v2])), (h1, .inl (cc0, 2, .inl f0))] sz)) 0 0 (va_A [(h0, .inr (0, [.ref h1, v0, v1, v2])), (h1, .inl (cc0, 2, .inl f0))] sz) := by
  refine Met.ofW (cc := cJ0_isEmpty_aae02) (maxL := 1) (ret := (some .boolean)) (by decide) rfl ?_
  intro p e s m args below meth c s₁ B hml hv
  obtain ⟨rfl, hsz, hP, hK, hD0, hF⟩ := hv
  have hx := B.exec
  have hb := B.bytes
  have hr := B.returns
  have hts := atoms_spec (ws := wbJ0_isEmpty_aae02) B.pre
  have hta : ∀ w ∈ wsALL, w.before _ s = true := fun w h => hts w (List.mem_cons_of_mem _ h)
  have hown : s.vm.findClass RJ0 = some m.cls := findClass_of_methodNamed B.named
  have hlocks := B.notSynchronized
  subst hsz
  have hD := hD0.self (sz := s.heap.size)
  generalize hAe : va_A [(h0, .inr (0, [.ref h1, v0, v1, v2])), (h1, .inl (cc0, 2, .inl f0))] s.heap.size = A at hD hF ⊢
  have hA : ∀ q : Nat, s.heap.size ≤ q → A q := fun q h => by rw [← hAe]; exact Or.inr h
  have hS : va_S A s.heap s.heap [] := va_S.rf
  have hP : va_P (dC, dI) vwCl [(h0, .inr (0, [.ref h1, v0, v1, v2])), (h1, .inl (cc0, 2, .inl f0))] s.heap := hP
  have hl := lv_entry ([.ref h0]) (n := 1) (Nat.le_of_ble_eq_true rfl)
  rw [lg_entry_eq]
  generalize (lg_sl ([.ref h0]) ++ List.replicate (1 - (lg_sl ([.ref h0])).length) Slot.unset).toArray = ls at hl ⊢
  have hl : lv_has ls 1 [(0, .ref h0)] := hl
  refine lv_aload_n hx hb dJ0_isEmpty_aae02_0 rfl (lv_at hl 0 rfl) ?_
  refine va_get (D := (dC, dI)) (ci := 0) (v := .ref h1) (C := RJ0) (T := TJ0) (N := 4) hx hb hta naJ0 hown hK hP 0 rfl rfl 0 (by decide) (hta _ wm341) (fun _ h9 => h9) rfl dJ0_isEmpty_aae02_1 ?_
  refine va_alen (v := 2) hx hb hK hP 1 0 rfl rfl (show Int32.ofNat 2 = 2 by decide) dJ0_isEmpty_aae02_4 ?_
  refine lv_if_ne (tgt := 12) hx hb dJ0_isEmpty_aae02_5 (by decide) (fun c1 => ?_) (fun c1 => absurd c1 (by decide))
  refine lv_iconst (v := 0) hx hb dJ0_isEmpty_aae02_12 (by decide) ?_
  have hP9 := hP.sub (ws' := [(h0, .inr (0, [.ref h1, v0, v1, v2])), (h1, .inl (cc0, 2, .inl f0))]) [0, 1] rfl
  have hD9 := hD.sub (ws' := [(h0, .inr (0, [.ref h1, v0, v1, v2])), (h1, .inl (cc0, 2, .inl f0))]) [0, 1] (by decide) rfl
  have hK9 := hK.sub (tys' := [(cc0, .byte)]) [0] rfl
  refine W.widen (k := 0) (n := 0) (Nat.le_of_ble_eq_true rfl) (Nat.le_of_ble_eq_true rfl) ?_
  exact W.zret (v := 0) hx hb hr (by decide) (fun t ht hW => ⟨⟨_, (), rfl, rfl, by rw [ht]; exact hP9, va_K.moved hW.alike hK9, hD9⟩, hS.F ht⟩) hS.2.2 dJ0_isEmpty_aae02_13
set_option maxHeartbeats 4000000 in
set_option maxRecDepth 100000 in
theorem kX9_mark (l : Launch) (dC : Nat → ClassId) (dI : Nat → Nat → Nat) (g : Nat → Nat) (sz : Nat) (h0 : Nat) (x0 : Int32) (ex0 : (-2147483648 : Int) ≤ x0.toInt ∧ x0.toInt ≤ (0 : Int)) (hlt : l.stackTraces = false) : vx_Met l yX9_mark wbX9_mark ({ frames := 6, cells := 1, slots := 6, locals := 82 }) (va_Pc [.ref h0, .int x0] (fun U => U.heap.size = sz ∧ va_P (dC, dI) vwCl [] U.heap ∧ va_K (dC, dI) vwCl [] U ∧ va_D (fun _ => True) [] ∧ ns_F g (va_A [] sz) U U.heap)) (va_Qv (fun _ : Unit => False) (fun _ _ => True) (va_A [] sz)) (vx_X (fun _ : Unit => True) (fun E _ _ => E = "java/lang/IllegalArgumentException") (va_A [] sz)) 1 6 (va_A [] sz) := by
  refine vx_ofW (cc := cX9_mark) (maxL := 2) (ret := (some .int)) (by decide) rfl ?_
  intro p e s m args below meth c s₁ B hml hnox hv
  obtain ⟨rfl, hsz, hP, hK, hD0, hF⟩ := hv
  have hx := B.exec
  have hb := B.bytes
  have hr := B.returns
  have hts := atoms_spec (ws := wbX9_mark) B.pre
  have hta : ∀ w ∈ wsALL, w.before _ s = true := fun w h => hts w (List.mem_cons_of_mem _ h)
  have hown : s.vm.findClass RX9 = some m.cls := findClass_of_methodNamed B.named
  have hlocks := B.notSynchronized
  subst hsz
  have hD := hD0.self (sz := s.heap.size)
  generalize hAe : va_A [] s.heap.size = A at hD hF ⊢
  have hA : ∀ q : Nat, s.heap.size ≤ q → A q := fun q h => by rw [← hAe]; exact Or.inr h
  have hS : va_S A s.heap s.heap [] := va_S.rf
  have hP : va_P (dC, dI) vwCl [] s.heap := hP
  have hl := lv_entry ([.ref h0, .int x0]) (n := 2) (Nat.le_of_ble_eq_true rfl)
  rw [lg_entry_eq]
  generalize (lg_sl ([.ref h0, .int x0]) ++ List.replicate (2 - (lg_sl ([.ref h0, .int x0])).length) Slot.unset).toArray = ls at hl ⊢
  have hl : lv_has ls 2 [(0, .ref h0), (1, .int x0)] := hl
  refine lv_iload_n hx hb dX9_mark_0 rfl (lv_at hl 1 rfl) ?_
  refine lv_iconst (v := 1) hx hb dX9_mark_1 (by decide) ?_
  refine lv_icmp_lt (tgt := 10) hx hb dX9_mark_2 (by decide) (fun c1 => ?_) (fun c1 => absurd (show x0 < (1 : Int32) from Int32.lt_iff_toInt_lt.mpr (show x0.toInt < (1 : Int) by omega)) c1)
  exact vx_throwS hx hb hlt (text := "kind is 1 to 4") (sa := (g 14)) (names := ["java/lang/RuntimeException", "java/lang/Exception"]) hown (by decide) (by decide) (hta _ wm225) (hta _ wm226) (ns_f23 hF) (vx_hat (B := [.declares ⟨"java/lang/RuntimeException", "<init>", "(Ljava/lang/String;)V"⟩, .declares ⟨"java/lang/Exception", "<init>", "(Ljava/lang/String;)V"⟩, .declares ⟨"java/lang/Throwable", "<init>", "(Ljava/lang/String;)V"⟩, .castable "java/lang/IllegalArgumentException" "java/lang/IllegalArgumentException"]) (fun w9 h9 => hta w9 (vm0 w9 h9)) (by decide +kernel) (vx_c (va_Nw.use rfl (ns_f12 hF)) (vx_c (va_Nw.use rfl (ns_f13 hF)) (vx_c (va_Nw.use rfl (ns_f14 hF)) (vx_c (va_Nw.use rfl (ns_f11 hF)) vx_n))))) (by decide +kernel) (ns_f18 hF) (ns_f19 hF) hS (by rw [hml]; exact hl.1) dX9_mark_10 dX9_mark_13 dX9_mark_14 dX9_mark_16 dX9_mark_19 (fun x hx => (hnox x hx).elim) (Nat.le_of_ble_eq_true rfl) (Nat.le_of_ble_eq_true rfl) (Nat.le_of_ble_eq_true rfl) (Nat.le_of_ble_eq_true rfl) hlocks (fun t9 hal hsz9 hk9 => ⟨(), trivial, rfl, Nat.le_trans hS.1 hsz9, fun q hq1 hq2 => (hk9 q (Nat.lt_of_lt_of_le hq1 hS.1)).trans (hS.2.1 q hq1 hq2)⟩) hS.2.2 (Nat.le_of_ble_eq_true rfl) (Nat.le_of_ble_eq_true rfl)
set_option maxHeartbeats 4000000 in
set_option maxRecDepth 100000 in
theorem kJ5_isLatin1_aae02 (l : Launch) (dC : Nat → ClassId) (dI : Nat → Nat → Nat) (g : Nat → Nat) (sz : Nat) (h0 : Nat) (v0 : Value) (v1 : Value) (v2 : Value) : Met l yJ5_isLatin1_aae02 wbJ5_isLatin1_aae02 ({ frames := 0, cells := 0, slots := 0, locals := 0 }) (va_Pc [.ref h0] (fun U => U.heap.size = sz ∧ va_P (dC, dI) vwCl [(h0, .inr (1, [v0, .int 0, v1, v2]))] U.heap ∧ va_K (dC, dI) vwCl [] U ∧ va_D (fun _ => True) [(h0, .inr (1, [v0, .int 0, v1, v2]))] ∧ ns_F g (va_A [(h0, .inr (1, [v0, .int 0, v1, v2]))] sz) U U.heap)) (va_Qi (fun (r : Int32) (_ : Unit) => r = 1) (fun _ t => va_P (dC, dI) vwCl [(h0, .inr (1, [v0, .int 0, v1, v2]))] t.heap ∧ va_K (dC, dI) vwCl [] t ∧ va_D (va_A [(h0, .inr (1, [v0, .int 0, v1, v2]))] sz) [(h0, .inr (1, [v0, .int 0, v1, v2]))]) (va_A [(h0, .inr (1, [v0, .int 0, v1, v2]))] sz)) 0 0 (va_A [(h0, .inr (1, [v0, .int 0, v1, v2]))] sz) := by
  refine Met.ofW (cc := cJ5_isLatin1_aae02) (maxL := 1) (ret := (some .boolean)) (by decide) rfl ?_
  intro p e s m args below meth c s₁ B hml hv
  obtain ⟨rfl, hsz, hP, hK, hD0, hF⟩ := hv
  have hx := B.exec
  have hb := B.bytes
  have hr := B.returns
  have hts := atoms_spec (ws := wbJ5_isLatin1_aae02) B.pre
  have hta : ∀ w ∈ wsALL, w.before _ s = true := fun w h => hts w (List.mem_cons_of_mem _ h)
  have hown : s.vm.findClass RJ5 = some m.cls := findClass_of_methodNamed B.named
  have hlocks := B.notSynchronized
  subst hsz
  have hD := hD0.self (sz := s.heap.size)
  generalize hAe : va_A [(h0, .inr (1, [v0, .int 0, v1, v2]))] s.heap.size = A at hD hF ⊢
  have hA : ∀ q : Nat, s.heap.size ≤ q → A q := fun q h => by rw [← hAe]; exact Or.inr h
  have hS : va_S A s.heap s.heap [] := va_S.rf
  have hP : va_P (dC, dI) vwCl [(h0, .inr (1, [v0, .int 0, v1, v2]))] s.heap := hP
  have hl := lv_entry ([.ref h0]) (n := 1) (Nat.le_of_ble_eq_true rfl)
  rw [lg_entry_eq]
  generalize (lg_sl ([.ref h0]) ++ List.replicate (1 - (lg_sl ([.ref h0])).length) Slot.unset).toArray = ls at hl ⊢
  have hl : lv_has ls 1 [(0, .ref h0)] := hl
  refine va_gets hx hb (ns_f15 hF) hS hown (hta _ wm139) (fun _ h9 => h9) dJ5_isLatin1_aae02_0 ?_
  refine lv_if_eq (tgt := 17) hx hb dJ5_isLatin1_aae02_3 (by decide) (fun c1 => absurd c1 (by decide)) (fun c1 => ?_)
  refine lv_aload_n hx hb dJ5_isLatin1_aae02_6 rfl (lv_at hl 0 rfl) ?_
  refine va_get (D := (dC, dI)) (ci := 1) (v := .int 0) (C := RJ4) (T := TJ4) (N := 4) hx hb hta naJ4 hown hK hP 0 rfl rfl 1 (by decide) (hta _ wm142) (fun _ h9 => h9) rfl dJ5_isLatin1_aae02_7 ?_
  refine lv_if_ne (tgt := 17) hx hb dJ5_isLatin1_aae02_10 (by decide) (fun c2 => absurd (by decide) c2) (fun c2 => ?_)
  refine lv_iconst (v := 1) hx hb dJ5_isLatin1_aae02_13 (by decide) ?_
  refine lv_goto (tgt := 18) hx hb dJ5_isLatin1_aae02_14 (by decide) ?_
  have hP9 := hP.sub (ws' := [(h0, .inr (1, [v0, .int 0, v1, v2]))]) [0] rfl
  have hD9 := hD.sub (ws' := [(h0, .inr (1, [v0, .int 0, v1, v2]))]) [0] (by decide) rfl
  have hK9 := hK.sub (tys' := []) [] rfl
  refine W.widen (k := 0) (n := 0) (Nat.le_of_ble_eq_true rfl) (Nat.le_of_ble_eq_true rfl) ?_
  exact W.zret (v := 1) hx hb hr (by decide) (fun t ht hW => ⟨⟨_, (), rfl, rfl, by rw [ht]; exact hP9, va_K.moved hW.alike hK9, hD9⟩, hS.F ht⟩) hS.2.2 dJ5_isLatin1_aae02_18
set_option maxHeartbeats 4000000 in
set_option maxRecDepth 100000 in
theorem kJ3_checkFromToIndex_8c36e_2 (l : Launch) (dC : Nat → ClassId) (dI : Nat → Nat → Nat) (g : Nat → Nat) (sz : Nat)  : Met l yJ3_checkFromToIndex_8c36e wbJ3_checkFromToIndex_8c36e ({ frames := 0, cells := 0, slots := 0, locals := 0 }) (va_Pc [.int 0, .int 0, .int 1, .ref (g 1)] (fun U => U.heap.size = sz ∧ va_P (dC, dI) vwCl [] U.heap ∧ va_K (dC, dI) vwCl [] U ∧ va_D (fun _ => True) [] ∧ ns_F g (va_A [] sz) U U.heap)) (va_Qi (fun (r : Int32) (_ : Unit) => r = 0) (fun _ t => va_P (dC, dI) vwCl [] t.heap ∧ va_K (dC, dI) vwCl [] t ∧ va_D (va_A [] sz) []) (va_A [] sz)) 0 0 (va_A [] sz) := by
  refine Met.ofW (cc := cJ3_checkFromToIndex_8c36e) (maxL := 4) (ret := (some .int)) (by decide) rfl ?_
  intro p e s m args below meth c s₁ B hml hv
  obtain ⟨rfl, hsz, hP, hK, hD0, hF⟩ := hv
  have hx := B.exec
  have hb := B.bytes
  have hr := B.returns
  have hts := atoms_spec (ws := wbJ3_checkFromToIndex_8c36e) B.pre
  have hta : ∀ w ∈ wsALL, w.before _ s = true := fun w h => hts w (List.mem_cons_of_mem _ h)
  have hown : s.vm.findClass RJ3 = some m.cls := findClass_of_methodNamed B.named
  have hlocks := B.notSynchronized
  subst hsz
  have hD := hD0.self (sz := s.heap.size)
  generalize hAe : va_A [] s.heap.size = A at hD hF ⊢
  have hA : ∀ q : Nat, s.heap.size ≤ q → A q := fun q h => by rw [← hAe]; exact Or.inr h
  have hS : va_S A s.heap s.heap [] := va_S.rf
  have hP : va_P (dC, dI) vwCl [] s.heap := hP
  have hl := lv_entry ([.int 0, .int 0, .int 1, .ref (g 1)]) (n := 4) (Nat.le_of_ble_eq_true rfl)
  rw [lg_entry_eq]
  generalize (lg_sl ([.int 0, .int 0, .int 1, .ref (g 1)]) ++ List.replicate (4 - (lg_sl ([.int 0, .int 0, .int 1, .ref (g 1)])).length) Slot.unset).toArray = ls at hl ⊢
  have hl : lv_has ls 4 [(0, .int 0), (1, .int 0), (2, .int 1), (3, .ref (g 1))] := hl
  refine lv_iload_n hx hb dJ3_checkFromToIndex_8c36e_0 rfl (lv_at hl 0 rfl) ?_
  refine lv_if_lt (tgt := 14) hx hb dJ3_checkFromToIndex_8c36e_1 (by decide) (fun c1 => absurd c1 (by decide)) (fun c1 => ?_)
  refine lv_iload_n hx hb dJ3_checkFromToIndex_8c36e_4 rfl (lv_at hl 0 rfl) ?_
  refine lv_iload_n hx hb dJ3_checkFromToIndex_8c36e_5 rfl (lv_at hl 1 rfl) ?_
  refine lv_icmp_gt (tgt := 14) hx hb dJ3_checkFromToIndex_8c36e_6 (by decide) (fun c2 => absurd c2 (by decide)) (fun c2 => ?_)
  refine lv_iload_n hx hb dJ3_checkFromToIndex_8c36e_9 rfl (lv_at hl 1 rfl) ?_
  refine lv_iload_n hx hb dJ3_checkFromToIndex_8c36e_10 rfl (lv_at hl 2 rfl) ?_
  refine lv_icmp_le (tgt := 22) hx hb dJ3_checkFromToIndex_8c36e_11 (by decide) (fun c3 => ?_) (fun c3 => absurd (by decide) c3)
  refine lv_iload_n hx hb dJ3_checkFromToIndex_8c36e_22 rfl (lv_at hl 0 rfl) ?_
  have hP9 := hP.sub (ws' := []) [] rfl
  have hD9 := hD.sub (ws' := []) [] (by decide) rfl
  have hK9 := hK.sub (tys' := []) [] rfl
  refine W.widen (k := 0) (n := 0) (Nat.le_of_ble_eq_true rfl) (Nat.le_of_ble_eq_true rfl) ?_
  exact W.iret (v := 0) hx hb hr (fun t ht hW => ⟨⟨_, (), rfl, rfl, by rw [ht]; exact hP9, va_K.moved hW.alike hK9, hD9⟩, hS.F ht⟩) hS.2.2 dJ3_checkFromToIndex_8c36e_23
set_option maxHeartbeats 4000000 in
set_option maxRecDepth 100000 in
theorem kX16_thrown (l : Launch) (dC : Nat → ClassId) (dI : Nat → Nat → Nat) (g : Nat → Nat) (sz : Nat) (h0 : Nat) (v0 : Value) (v1 : Value) (v2 : Value) (v3 : Value) (v4 : Value) (v5 : Value) (v6 : Value) (v7 : Value) : Met l yX16_thrown wbX16_thrown ({ frames := 0, cells := 0, slots := 0, locals := 0 }) (va_Pc [.ref h0] (fun U => U.heap.size = sz ∧ va_P (dC, dI) vwCl [(h0, .inr (23, [.int 1, v0, v1, v2, v3, v4, v5, v6, v7]))] U.heap ∧ va_K (dC, dI) vwCl [] U ∧ va_D (fun _ => True) [(h0, .inr (23, [.int 1, v0, v1, v2, v3, v4, v5, v6, v7]))] ∧ ns_F g (va_A [(h0, .inr (23, [.int 1, v0, v1, v2, v3, v4, v5, v6, v7]))] sz) U U.heap)) (va_Qi (fun (r : Int32) (_ : Unit) => r = 1) (fun _ t => va_P (dC, dI) vwCl [(h0, .inr (23, [.int 1, v0, v1, v2, v3, v4, v5, v6, v7]))] t.heap ∧ va_K (dC, dI) vwCl [] t ∧ va_D (va_A [(h0, .inr (23, [.int 1, v0, v1, v2, v3, v4, v5, v6, v7]))] sz) [(h0, .inr (23, [.int 1, v0, v1, v2, v3, v4, v5, v6, v7]))]) (va_A [(h0, .inr (23, [.int 1, v0, v1, v2, v3, v4, v5, v6, v7]))] sz)) 0 0 (va_A [(h0, .inr (23, [.int 1, v0, v1, v2, v3, v4, v5, v6, v7]))] sz) := by
  refine Met.ofW (cc := cX16_thrown) (maxL := 1) (ret := (some .int)) (by decide) rfl ?_
  intro p e s m args below meth c s₁ B hml hv
  obtain ⟨rfl, hsz, hP, hK, hD0, hF⟩ := hv
  have hx := B.exec
  have hb := B.bytes
  have hr := B.returns
  have hts := atoms_spec (ws := wbX16_thrown) B.pre
  have hta : ∀ w ∈ wsALL, w.before _ s = true := fun w h => hts w (List.mem_cons_of_mem _ h)
  have hown : s.vm.findClass RX16 = some m.cls := findClass_of_methodNamed B.named
  have hlocks := B.notSynchronized
  subst hsz
  have hD := hD0.self (sz := s.heap.size)
  generalize hAe : va_A [(h0, .inr (23, [.int 1, v0, v1, v2, v3, v4, v5, v6, v7]))] s.heap.size = A at hD hF ⊢
  have hA : ∀ q : Nat, s.heap.size ≤ q → A q := fun q h => by rw [← hAe]; exact Or.inr h
  have hS : va_S A s.heap s.heap [] := va_S.rf
  have hP : va_P (dC, dI) vwCl [(h0, .inr (23, [.int 1, v0, v1, v2, v3, v4, v5, v6, v7]))] s.heap := hP
  have hl := lv_entry ([.ref h0]) (n := 1) (Nat.le_of_ble_eq_true rfl)
  rw [lg_entry_eq]
  generalize (lg_sl ([.ref h0]) ++ List.replicate (1 - (lg_sl ([.ref h0])).length) Slot.unset).toArray = ls at hl ⊢
  have hl : lv_has ls 1 [(0, .ref h0)] := hl
  refine lv_aload_n hx hb dX16_thrown_0 rfl (lv_at hl 0 rfl) ?_
  refine va_get (D := (dC, dI)) (ci := 23) (v := .int 1) (C := RX16) (T := TX16) (N := 9) hx hb hta naX16 hown hK hP 0 rfl rfl 0 (by decide) (hta _ wm234) (fun _ h9 => h9) rfl dX16_thrown_1 ?_
  have hP9 := hP.sub (ws' := [(h0, .inr (23, [.int 1, v0, v1, v2, v3, v4, v5, v6, v7]))]) [0] rfl
  have hD9 := hD.sub (ws' := [(h0, .inr (23, [.int 1, v0, v1, v2, v3, v4, v5, v6, v7]))]) [0] (by decide) rfl
  have hK9 := hK.sub (tys' := []) [] rfl
  refine W.widen (k := 0) (n := 0) (Nat.le_of_ble_eq_true rfl) (Nat.le_of_ble_eq_true rfl) ?_
  exact W.iret (v := 1) hx hb hr (fun t ht hW => ⟨⟨_, (), rfl, rfl, by rw [ht]; exact hP9, va_K.moved hW.alike hK9, hD9⟩, hS.F ht⟩) hS.2.2 dX16_thrown_4
set_option maxHeartbeats 4000000 in
set_option maxRecDepth 100000 in
theorem kJ5_length_8abf5_10 (l : Launch) (dC : Nat → ClassId) (dI : Nat → Nat → Nat) (g : Nat → Nat) (sz : Nat) (h0 : Nat) (v0 : Value) (v1 : Value) (v2 : Value) : Met l yJ5_length_8abf5 wbJ5_length_8abf5 ({ frames := 0, cells := 0, slots := 0, locals := 0 }) (va_Pc [.ref h0] (fun U => U.heap.size = sz ∧ va_P (dC, dI) vwCl [(h0, .inr (1, [v0, v1, v2, .int 0]))] U.heap ∧ va_K (dC, dI) vwCl [] U ∧ va_D (fun _ => True) [(h0, .inr (1, [v0, v1, v2, .int 0]))] ∧ ns_F g (va_A [(h0, .inr (1, [v0, v1, v2, .int 0]))] sz) U U.heap)) (va_Qi (fun (r : Int32) (_ : Unit) => r = 0) (fun _ t => va_P (dC, dI) vwCl [(h0, .inr (1, [v0, v1, v2, .int 0]))] t.heap ∧ va_K (dC, dI) vwCl [] t ∧ va_D (va_A [(h0, .inr (1, [v0, v1, v2, .int 0]))] sz) [(h0, .inr (1, [v0, v1, v2, .int 0]))]) (va_A [(h0, .inr (1, [v0, v1, v2, .int 0]))] sz)) 0 0 (va_A [(h0, .inr (1, [v0, v1, v2, .int 0]))] sz) := by
  refine Met.ofW (cc := cJ5_length_8abf5) (maxL := 1) (ret := (some .int)) (by decide) rfl ?_
  intro p e s m args below meth c s₁ B hml hv
  obtain ⟨rfl, hsz, hP, hK, hD0, hF⟩ := hv
  have hx := B.exec
  have hb := B.bytes
  have hr := B.returns
  have hts := atoms_spec (ws := wbJ5_length_8abf5) B.pre
  have hta : ∀ w ∈ wsALL, w.before _ s = true := fun w h => hts w (List.mem_cons_of_mem _ h)
  have hown : s.vm.findClass RJ5 = some m.cls := findClass_of_methodNamed B.named
  have hlocks := B.notSynchronized
  subst hsz
  have hD := hD0.self (sz := s.heap.size)
  generalize hAe : va_A [(h0, .inr (1, [v0, v1, v2, .int 0]))] s.heap.size = A at hD hF ⊢
  have hA : ∀ q : Nat, s.heap.size ≤ q → A q := fun q h => by rw [← hAe]; exact Or.inr h
  have hS : va_S A s.heap s.heap [] := va_S.rf
  have hP : va_P (dC, dI) vwCl [(h0, .inr (1, [v0, v1, v2, .int 0]))] s.heap := hP
  have hl := lv_entry ([.ref h0]) (n := 1) (Nat.le_of_ble_eq_true rfl)
  rw [lg_entry_eq]
  generalize (lg_sl ([.ref h0]) ++ List.replicate (1 - (lg_sl ([.ref h0])).length) Slot.unset).toArray = ls at hl ⊢
  have hl : lv_has ls 1 [(0, .ref h0)] := hl
  refine lv_aload_n hx hb dJ5_length_8abf5_0 rfl (lv_at hl 0 rfl) ?_
  refine va_get (D := (dC, dI)) (ci := 1) (v := .int 0) (C := RJ4) (T := TJ4) (N := 4) hx hb hta naJ4 hown hK hP 0 rfl rfl 3 (by decide) (hta _ wm290) (fun _ h9 => h9) rfl dJ5_length_8abf5_1 ?_
  have hP9 := hP.sub (ws' := [(h0, .inr (1, [v0, v1, v2, .int 0]))]) [0] rfl
  have hD9 := hD.sub (ws' := [(h0, .inr (1, [v0, v1, v2, .int 0]))]) [0] (by decide) rfl
  have hK9 := hK.sub (tys' := []) [] rfl
  refine W.widen (k := 0) (n := 0) (Nat.le_of_ble_eq_true rfl) (Nat.le_of_ble_eq_true rfl) ?_
  exact W.iret (v := 0) hx hb hr (fun t ht hW => ⟨⟨_, (), rfl, rfl, by rw [ht]; exact hP9, va_K.moved hW.alike hK9, hD9⟩, hS.F ht⟩) hS.2.2 dJ5_length_8abf5_4
set_option maxHeartbeats 4000000 in
set_option maxRecDepth 100000 in
theorem kJx4a65c_size_8abf5 (l : Launch) (dC : Nat → ClassId) (dI : Nat → Nat → Nat) (g : Nat → Nat) (sz : Nat) (h0 : Nat) (v0 : Value) (v1 : Value) : Met l yJx4a65c_size_8abf5 wbJx4a65c_size_8abf5 ({ frames := 0, cells := 0, slots := 0, locals := 0 }) (va_Pc [.ref h0] (fun U => U.heap.size = sz ∧ va_P (dC, dI) vwCl [(h0, .inr (6, [v0, v1, .int 0]))] U.heap ∧ va_K (dC, dI) vwCl [] U ∧ va_D (fun _ => True) [(h0, .inr (6, [v0, v1, .int 0]))] ∧ ns_F g (va_A [(h0, .inr (6, [v0, v1, .int 0]))] sz) U U.heap)) (va_Qi (fun (r : Int32) (_ : Unit) => r = 0) (fun _ t => va_P (dC, dI) vwCl [(h0, .inr (6, [v0, v1, .int 0]))] t.heap ∧ va_K (dC, dI) vwCl [] t ∧ va_D (va_A [(h0, .inr (6, [v0, v1, .int 0]))] sz) [(h0, .inr (6, [v0, v1, .int 0]))]) (va_A [(h0, .inr (6, [v0, v1, .int 0]))] sz)) 0 0 (va_A [(h0, .inr (6, [v0, v1, .int 0]))] sz) := by
  refine Met.ofW (cc := cJx4a65c_size_8abf5) (maxL := 1) (ret := (some .int)) (by decide) rfl ?_
  intro p e s m args below meth c s₁ B hml hv
  obtain ⟨rfl, hsz, hP, hK, hD0, hF⟩ := hv
  have hx := B.exec
  have hb := B.bytes
  have hr := B.returns
  have hts := atoms_spec (ws := wbJx4a65c_size_8abf5) B.pre
  have hta : ∀ w ∈ wsALL, w.before _ s = true := fun w h => hts w (List.mem_cons_of_mem _ h)
  have hown : s.vm.findClass RJx4a65c = some m.cls := findClass_of_methodNamed B.named
  have hlocks := B.notSynchronized
  subst hsz
  have hD := hD0.self (sz := s.heap.size)
  generalize hAe : va_A [(h0, .inr (6, [v0, v1, .int 0]))] s.heap.size = A at hD hF ⊢
  have hA : ∀ q : Nat, s.heap.size ≤ q → A q := fun q h => by rw [← hAe]; exact Or.inr h
  have hS : va_S A s.heap s.heap [] := va_S.rf
  have hP : va_P (dC, dI) vwCl [(h0, .inr (6, [v0, v1, .int 0]))] s.heap := hP
  have hl := lv_entry ([.ref h0]) (n := 1) (Nat.le_of_ble_eq_true rfl)
  rw [lg_entry_eq]
  generalize (lg_sl ([.ref h0]) ++ List.replicate (1 - (lg_sl ([.ref h0])).length) Slot.unset).toArray = ls at hl ⊢
  have hl : lv_has ls 1 [(0, .ref h0)] := hl
  refine lv_aload_n hx hb dJx4a65c_size_8abf5_0 rfl (lv_at hl 0 rfl) ?_
  refine va_get (D := (dC, dI)) (ci := 6) (v := .int 0) (C := RJx4a65c) (T := TJx4a65c) (N := 3) hx hb hta naJx4a65c hown hK hP 0 rfl rfl 2 (by decide) (hta _ wm283) (fun _ h9 => h9) rfl dJx4a65c_size_8abf5_1 ?_
  have hP9 := hP.sub (ws' := [(h0, .inr (6, [v0, v1, .int 0]))]) [0] rfl
  have hD9 := hD.sub (ws' := [(h0, .inr (6, [v0, v1, .int 0]))]) [0] (by decide) rfl
  have hK9 := hK.sub (tys' := []) [] rfl
  refine W.widen (k := 0) (n := 0) (Nat.le_of_ble_eq_true rfl) (Nat.le_of_ble_eq_true rfl) ?_
  exact W.iret (v := 0) hx hb hr (fun t ht hW => ⟨⟨_, (), rfl, rfl, by rw [ht]; exact hP9, va_K.moved hW.alike hK9, hD9⟩, hS.F ht⟩) hS.2.2 dJx4a65c_size_8abf5_4
set_option maxHeartbeats 4000000 in
set_option maxRecDepth 100000 in
theorem kX16_isIn_8 (l : Launch) (dC : Nat → ClassId) (dI : Nat → Nat → Nat) (g : Nat → Nat) (sz : Nat)  : Met l yX16_isIn wbX16_isIn ({ frames := 0, cells := 0, slots := 0, locals := 0 }) (va_Pc [.int 5, .int 1, .int 9] (fun U => U.heap.size = sz ∧ va_P (dC, dI) vwCl [] U.heap ∧ va_K (dC, dI) vwCl [] U ∧ va_D (fun _ => True) [] ∧ ns_F g (va_A [] sz) U U.heap)) (va_Qi (fun (r : Int32) (_ : Unit) => r = 1) (fun _ t => va_P (dC, dI) vwCl [] t.heap ∧ va_K (dC, dI) vwCl [] t ∧ va_D (va_A [] sz) []) (va_A [] sz)) 0 0 (va_A [] sz) := by
  refine Met.ofW (cc := cX16_isIn) (maxL := 3) (ret := (some .boolean)) (by decide) rfl ?_
  intro p e s m args below meth c s₁ B hml hv
  obtain ⟨rfl, hsz, hP, hK, hD0, hF⟩ := hv
  have hx := B.exec
  have hb := B.bytes
  have hr := B.returns
  have hts := atoms_spec (ws := wbX16_isIn) B.pre
  have hta : ∀ w ∈ wsALL, w.before _ s = true := fun w h => hts w (List.mem_cons_of_mem _ h)
  have hown : s.vm.findClass RX16 = some m.cls := findClass_of_methodNamed B.named
  have hlocks := B.notSynchronized
  subst hsz
  have hD := hD0.self (sz := s.heap.size)
  generalize hAe : va_A [] s.heap.size = A at hD hF ⊢
  have hA : ∀ q : Nat, s.heap.size ≤ q → A q := fun q h => by rw [← hAe]; exact Or.inr h
  have hS : va_S A s.heap s.heap [] := va_S.rf
  have hP : va_P (dC, dI) vwCl [] s.heap := hP
  have hl := lv_entry ([.int 5, .int 1, .int 9]) (n := 3) (Nat.le_of_ble_eq_true rfl)
  rw [lg_entry_eq]
  generalize (lg_sl ([.int 5, .int 1, .int 9]) ++ List.replicate (3 - (lg_sl ([.int 5, .int 1, .int 9])).length) Slot.unset).toArray = ls at hl ⊢
  have hl : lv_has ls 3 [(0, .int 5), (1, .int 1), (2, .int 9)] := hl
  refine lv_iload_n hx hb dX16_isIn_0 rfl (lv_at hl 0 rfl) ?_
  refine lv_iload_n hx hb dX16_isIn_1 rfl (lv_at hl 1 rfl) ?_
  refine lv_icmp_lt (tgt := 14) hx hb dX16_isIn_2 (by decide) (fun c1 => absurd c1 (by decide)) (fun c1 => ?_)
  refine lv_iload_n hx hb dX16_isIn_5 rfl (lv_at hl 0 rfl) ?_
  refine lv_iload_n hx hb dX16_isIn_6 rfl (lv_at hl 2 rfl) ?_
  refine lv_icmp_gt (tgt := 14) hx hb dX16_isIn_7 (by decide) (fun c2 => absurd c2 (by decide)) (fun c2 => ?_)
  refine lv_iconst (v := 1) hx hb dX16_isIn_10 (by decide) ?_
  refine lv_goto (tgt := 15) hx hb dX16_isIn_11 (by decide) ?_
  have hP9 := hP.sub (ws' := []) [] rfl
  have hD9 := hD.sub (ws' := []) [] (by decide) rfl
  have hK9 := hK.sub (tys' := []) [] rfl
  refine W.widen (k := 0) (n := 0) (Nat.le_of_ble_eq_true rfl) (Nat.le_of_ble_eq_true rfl) ?_
  exact W.zret (v := 1) hx hb hr (by decide) (fun t ht hW => ⟨⟨_, (), rfl, rfl, by rw [ht]; exact hP9, va_K.moved hW.alike hK9, hD9⟩, hS.F ht⟩) hS.2.2 dX16_isIn_15
set_option maxHeartbeats 4000000 in
set_option maxRecDepth 100000 in
theorem kX16_add_14 (l : Launch) (dC : Nat → ClassId) (dI : Nat → Nat → Nat) (g : Nat → Nat) (sz : Nat)  : Met l yX16_add wbX16_add ({ frames := 0, cells := 0, slots := 0, locals := 0 }) (va_Pc [.long 6427769642143190602, .long 0] (fun U => U.heap.size = sz ∧ va_P (dC, dI) vwCl [] U.heap ∧ va_K (dC, dI) vwCl [] U ∧ va_D (fun _ => True) [] ∧ ns_F g (va_A [] sz) U U.heap)) (va_Ql (fun (r : Int64) (_ : Unit) => r = (-3653325904366159114)) (fun _ t => va_P (dC, dI) vwCl [] t.heap ∧ va_K (dC, dI) vwCl [] t ∧ va_D (va_A [] sz) []) (va_A [] sz)) 0 0 (va_A [] sz) := by
  refine Met.ofW (cc := cX16_add) (maxL := 4) (ret := (some .long)) (by decide) rfl ?_
  intro p e s m args below meth c s₁ B hml hv
  obtain ⟨rfl, hsz, hP, hK, hD0, hF⟩ := hv
  have hx := B.exec
  have hb := B.bytes
  have hr := B.returns
  have hts := atoms_spec (ws := wbX16_add) B.pre
  have hta : ∀ w ∈ wsALL, w.before _ s = true := fun w h => hts w (List.mem_cons_of_mem _ h)
  have hown : s.vm.findClass RX16 = some m.cls := findClass_of_methodNamed B.named
  have hlocks := B.notSynchronized
  subst hsz
  have hD := hD0.self (sz := s.heap.size)
  generalize hAe : va_A [] s.heap.size = A at hD hF ⊢
  have hA : ∀ q : Nat, s.heap.size ≤ q → A q := fun q h => by rw [← hAe]; exact Or.inr h
  have hS : va_S A s.heap s.heap [] := va_S.rf
  have hP : va_P (dC, dI) vwCl [] s.heap := hP
  have hl := lv_entry ([.long 6427769642143190602, .long 0]) (n := 4) (Nat.le_of_ble_eq_true rfl)
  rw [lg_entry_eq]
  generalize (lg_sl ([.long 6427769642143190602, .long 0]) ++ List.replicate (4 - (lg_sl ([.long 6427769642143190602, .long 0])).length) Slot.unset).toArray = ls at hl ⊢
  have hl : lv_has ls 4 [(0, .long 6427769642143190602), (2, .long 0)] := hl
  refine lv_lload_n hx hb dX16_add_0 rfl (lv_at hl 0 rfl) ?_
  refine lv_ldc2 (v := 31) hx hb hown (hta _ wm1092) dX16_add_1 ?_
  refine lv_lmul hx hb dX16_add_4 ?_
  refine lv_topl (fun y1 ey1 => ?_)
  obtain rfl : y1 = (-3653325904366159114) := ey1.trans (by decide)
  refine lv_lload_n hx hb dX16_add_5 rfl (lv_at hl 1 rfl) ?_
  refine lv_ladd hx hb dX16_add_6 ?_
  refine lv_topl (fun y2 ey2 => ?_)
  obtain rfl : y2 = (-3653325904366159114) := ey2.trans (by decide)
  have hP9 := hP.sub (ws' := []) [] rfl
  have hD9 := hD.sub (ws' := []) [] (by decide) rfl
  have hK9 := hK.sub (tys' := []) [] rfl
  refine W.widen (k := 0) (n := 0) (Nat.le_of_ble_eq_true rfl) (Nat.le_of_ble_eq_true rfl) ?_
  exact W.lret (v := (-3653325904366159114)) hx hb hr (fun t ht hW => ⟨⟨_, (), rfl, rfl, by rw [ht]; exact hP9, va_K.moved hW.alike hK9, hD9⟩, hS.F ht⟩) hS.2.2 dX16_add_7
set_option maxHeartbeats 4000000 in
set_option maxRecDepth 100000 in
theorem kX9_lengthAfter_17 (l : Launch) (dC : Nat → ClassId) (dI : Nat → Nat → Nat) (g : Nat → Nat) (sz : Nat) (x0 : Int32) (x1 : Int32) (ex0 : (0 : Int) ≤ x0.toInt ∧ x0.toInt ≤ (5 : Int)) (ex1 : (-1 : Int) ≤ x1.toInt ∧ x1.toInt ≤ (-1 : Int)) : Met l yX9_lengthAfter wbX9_lengthAfter ({ frames := 0, cells := 0, slots := 0, locals := 0 }) (va_Pc [.int x0, .int x1] (fun U => U.heap.size = sz ∧ va_P (dC, dI) vwCl [] U.heap ∧ va_K (dC, dI) vwCl [] U ∧ va_D (fun _ => True) [] ∧ ns_F g (va_A [] sz) U U.heap)) (va_Qi (fun (r : Int32) (_ : Unit) => r = x0) (fun _ t => va_P (dC, dI) vwCl [] t.heap ∧ va_K (dC, dI) vwCl [] t ∧ va_D (va_A [] sz) []) (va_A [] sz)) 0 0 (va_A [] sz) := by
  refine Met.ofW (cc := cX9_lengthAfter) (maxL := 2) (ret := (some .int)) (by decide) rfl ?_
  intro p e s m args below meth c s₁ B hml hv
  obtain ⟨rfl, hsz, hP, hK, hD0, hF⟩ := hv
  have hx := B.exec
  have hb := B.bytes
  have hr := B.returns
  have hts := atoms_spec (ws := wbX9_lengthAfter) B.pre
  have hta : ∀ w ∈ wsALL, w.before _ s = true := fun w h => hts w (List.mem_cons_of_mem _ h)
  have hown : s.vm.findClass RX9 = some m.cls := findClass_of_methodNamed B.named
  have hlocks := B.notSynchronized
  subst hsz
  have hD := hD0.self (sz := s.heap.size)
  generalize hAe : va_A [] s.heap.size = A at hD hF ⊢
  have hA : ∀ q : Nat, s.heap.size ≤ q → A q := fun q h => by rw [← hAe]; exact Or.inr h
  have hS : va_S A s.heap s.heap [] := va_S.rf
  have hP : va_P (dC, dI) vwCl [] s.heap := hP
  have hl := lv_entry ([.int x0, .int x1]) (n := 2) (Nat.le_of_ble_eq_true rfl)
  rw [lg_entry_eq]
  generalize (lg_sl ([.int x0, .int x1]) ++ List.replicate (2 - (lg_sl ([.int x0, .int x1])).length) Slot.unset).toArray = ls at hl ⊢
  have hl : lv_has ls 2 [(0, .int x0), (1, .int x1)] := hl
  refine lv_iload_n hx hb dX9_lengthAfter_0 rfl (lv_at hl 1 rfl) ?_
  refine lv_iconst (v := (-1)) hx hb dX9_lengthAfter_1 (by decide) ?_
  refine lv_icmp_ne (tgt := 7) hx hb dX9_lengthAfter_2 (by decide) (fun c1 => absurd (show x1 = (-1 : Int32) from Int32.toInt_inj.mp (show x1.toInt = (-1 : Int) by omega)) c1) (fun c1 => ?_)
  refine lv_iload_n hx hb dX9_lengthAfter_5 rfl (lv_at hl 0 rfl) ?_
  have hP9 := hP.sub (ws' := []) [] rfl
  have hD9 := hD.sub (ws' := []) [] (by decide) rfl
  have hK9 := hK.sub (tys' := []) [] rfl
  refine W.widen (k := 0) (n := 0) (Nat.le_of_ble_eq_true rfl) (Nat.le_of_ble_eq_true rfl) ?_
  exact W.iret (v := x0) hx hb hr (fun t ht hW => ⟨⟨_, (), rfl, rfl, by rw [ht]; exact hP9, va_K.moved hW.alike hK9, hD9⟩, hS.F ht⟩) hS.2.2 dX9_lengthAfter_6
set_option maxHeartbeats 4000000 in
set_option maxRecDepth 100000 in
theorem kX16_add_7 (l : Launch) (dC : Nat → ClassId) (dI : Nat → Nat → Nat) (g : Nat → Nat) (sz : Nat)  : Met l yX16_add wbX16_add ({ frames := 0, cells := 0, slots := 0, locals := 0 }) (va_Pc [.long 7354763262327, .long 0] (fun U => U.heap.size = sz ∧ va_P (dC, dI) vwCl [] U.heap ∧ va_K (dC, dI) vwCl [] U ∧ va_D (fun _ => True) [] ∧ ns_F g (va_A [] sz) U U.heap)) (va_Ql (fun (r : Int64) (_ : Unit) => r = 227997661132137) (fun _ t => va_P (dC, dI) vwCl [] t.heap ∧ va_K (dC, dI) vwCl [] t ∧ va_D (va_A [] sz) []) (va_A [] sz)) 0 0 (va_A [] sz) := by
  refine Met.ofW (cc := cX16_add) (maxL := 4) (ret := (some .long)) (by decide) rfl ?_
  intro p e s m args below meth c s₁ B hml hv
  obtain ⟨rfl, hsz, hP, hK, hD0, hF⟩ := hv
  have hx := B.exec
  have hb := B.bytes
  have hr := B.returns
  have hts := atoms_spec (ws := wbX16_add) B.pre
  have hta : ∀ w ∈ wsALL, w.before _ s = true := fun w h => hts w (List.mem_cons_of_mem _ h)
  have hown : s.vm.findClass RX16 = some m.cls := findClass_of_methodNamed B.named
  have hlocks := B.notSynchronized
  subst hsz
  have hD := hD0.self (sz := s.heap.size)
  generalize hAe : va_A [] s.heap.size = A at hD hF ⊢
  have hA : ∀ q : Nat, s.heap.size ≤ q → A q := fun q h => by rw [← hAe]; exact Or.inr h
  have hS : va_S A s.heap s.heap [] := va_S.rf
  have hP : va_P (dC, dI) vwCl [] s.heap := hP
  have hl := lv_entry ([.long 7354763262327, .long 0]) (n := 4) (Nat.le_of_ble_eq_true rfl)
  rw [lg_entry_eq]
  generalize (lg_sl ([.long 7354763262327, .long 0]) ++ List.replicate (4 - (lg_sl ([.long 7354763262327, .long 0])).length) Slot.unset).toArray = ls at hl ⊢
  have hl : lv_has ls 4 [(0, .long 7354763262327), (2, .long 0)] := hl
  refine lv_lload_n hx hb dX16_add_0 rfl (lv_at hl 0 rfl) ?_
  refine lv_ldc2 (v := 31) hx hb hown (hta _ wm1092) dX16_add_1 ?_
  refine lv_lmul hx hb dX16_add_4 ?_
  refine lv_topl (fun y1 ey1 => ?_)
  obtain rfl : y1 = 227997661132137 := ey1.trans (by decide)
  refine lv_lload_n hx hb dX16_add_5 rfl (lv_at hl 1 rfl) ?_
  refine lv_ladd hx hb dX16_add_6 ?_
  refine lv_topl (fun y2 ey2 => ?_)
  obtain rfl : y2 = 227997661132137 := ey2.trans (by decide)
  have hP9 := hP.sub (ws' := []) [] rfl
  have hD9 := hD.sub (ws' := []) [] (by decide) rfl
  have hK9 := hK.sub (tys' := []) [] rfl
  refine W.widen (k := 0) (n := 0) (Nat.le_of_ble_eq_true rfl) (Nat.le_of_ble_eq_true rfl) ?_
  exact W.lret (v := 227997661132137) hx hb hr (fun t ht hW => ⟨⟨_, (), rfl, rfl, by rw [ht]; exact hP9, va_K.moved hW.alike hK9, hD9⟩, hS.F ht⟩) hS.2.2 dX16_add_7
set_option maxHeartbeats 4000000 in
set_option maxRecDepth 100000 in
theorem kX16_isIn_15 (l : Launch) (dC : Nat → ClassId) (dI : Nat → Nat → Nat) (g : Nat → Nat) (sz : Nat) (x0 : Int32) (ex0 : (-2147483648 : Int) ≤ x0.toInt ∧ x0.toInt ≤ (0 : Int)) : Met l yX16_isIn wbX16_isIn ({ frames := 0, cells := 0, slots := 0, locals := 0 }) (va_Pc [.int x0, .int 1, .int 4] (fun U => U.heap.size = sz ∧ va_P (dC, dI) vwCl [] U.heap ∧ va_K (dC, dI) vwCl [] U ∧ va_D (fun _ => True) [] ∧ ns_F g (va_A [] sz) U U.heap)) (va_Qi (fun (r : Int32) (_ : Unit) => r = 0) (fun _ t => va_P (dC, dI) vwCl [] t.heap ∧ va_K (dC, dI) vwCl [] t ∧ va_D (va_A [] sz) []) (va_A [] sz)) 0 0 (va_A [] sz) := by
  refine Met.ofW (cc := cX16_isIn) (maxL := 3) (ret := (some .boolean)) (by decide) rfl ?_
  intro p e s m args below meth c s₁ B hml hv
  obtain ⟨rfl, hsz, hP, hK, hD0, hF⟩ := hv
  have hx := B.exec
  have hb := B.bytes
  have hr := B.returns
  have hts := atoms_spec (ws := wbX16_isIn) B.pre
  have hta : ∀ w ∈ wsALL, w.before _ s = true := fun w h => hts w (List.mem_cons_of_mem _ h)
  have hown : s.vm.findClass RX16 = some m.cls := findClass_of_methodNamed B.named
  have hlocks := B.notSynchronized
  subst hsz
  have hD := hD0.self (sz := s.heap.size)
  generalize hAe : va_A [] s.heap.size = A at hD hF ⊢
  have hA : ∀ q : Nat, s.heap.size ≤ q → A q := fun q h => by rw [← hAe]; exact Or.inr h
  have hS : va_S A s.heap s.heap [] := va_S.rf
  have hP : va_P (dC, dI) vwCl [] s.heap := hP
  have hl := lv_entry ([.int x0, .int 1, .int 4]) (n := 3) (Nat.le_of_ble_eq_true rfl)
  rw [lg_entry_eq]
  generalize (lg_sl ([.int x0, .int 1, .int 4]) ++ List.replicate (3 - (lg_sl ([.int x0, .int 1, .int 4])).length) Slot.unset).toArray = ls at hl ⊢
  have hl : lv_has ls 3 [(0, .int x0), (1, .int 1), (2, .int 4)] := hl
  refine lv_iload_n hx hb dX16_isIn_0 rfl (lv_at hl 0 rfl) ?_
  refine lv_iload_n hx hb dX16_isIn_1 rfl (lv_at hl 1 rfl) ?_
  refine lv_icmp_lt (tgt := 14) hx hb dX16_isIn_2 (by decide) (fun c1 => ?_) (fun c1 => absurd (show x0 < (1 : Int32) from Int32.lt_iff_toInt_lt.mpr (show x0.toInt < (1 : Int) by omega)) c1)
  refine lv_iconst (v := 0) hx hb dX16_isIn_14 (by decide) ?_
  have hP9 := hP.sub (ws' := []) [] rfl
  have hD9 := hD.sub (ws' := []) [] (by decide) rfl
  have hK9 := hK.sub (tys' := []) [] rfl
  refine W.widen (k := 0) (n := 0) (Nat.le_of_ble_eq_true rfl) (Nat.le_of_ble_eq_true rfl) ?_
  exact W.zret (v := 0) hx hb hr (by decide) (fun t ht hW => ⟨⟨_, (), rfl, rfl, by rw [ht]; exact hP9, va_K.moved hW.alike hK9, hD9⟩, hS.F ht⟩) hS.2.2 dX16_isIn_15
set_option maxHeartbeats 4000000 in
set_option maxRecDepth 100000 in
theorem kJ7_checkLength_df160_5 (l : Launch) (dC : Nat → ClassId) (dI : Nat → Nat → Nat) (g : Nat → Nat) (sz : Nat)  : Met l yJ7_checkLength_df160 wbJ7_checkLength_df160 ({ frames := 0, cells := 0, slots := 0, locals := 0 }) (va_Pc [.int 0, .int 5] (fun U => U.heap.size = sz ∧ va_P (dC, dI) vwCl [] U.heap ∧ va_K (dC, dI) vwCl [] U ∧ va_D (fun _ => True) [] ∧ ns_F g (va_A [] sz) U U.heap)) (va_Qv (fun _ : Unit => True) (fun _ t => va_P (dC, dI) vwCl [] t.heap ∧ va_K (dC, dI) vwCl [] t ∧ va_D (va_A [] sz) []) (va_A [] sz)) 0 0 (va_A [] sz) := by
  refine Met.ofW (cc := cJ7_checkLength_df160) (maxL := 2) (ret := none) (by decide) rfl ?_
  intro p e s m args below meth c s₁ B hml hv
  obtain ⟨rfl, hsz, hP, hK, hD0, hF⟩ := hv
  have hx := B.exec
  have hb := B.bytes
  have hr := B.returns
  have hts := atoms_spec (ws := wbJ7_checkLength_df160) B.pre
  have hta : ∀ w ∈ wsALL, w.before _ s = true := fun w h => hts w (List.mem_cons_of_mem _ h)
  have hown : s.vm.findClass RJ7 = some m.cls := findClass_of_methodNamed B.named
  have hlocks := B.notSynchronized
  subst hsz
  have hD := hD0.self (sz := s.heap.size)
  generalize hAe : va_A [] s.heap.size = A at hD hF ⊢
  have hA : ∀ q : Nat, s.heap.size ≤ q → A q := fun q h => by rw [← hAe]; exact Or.inr h
  have hS : va_S A s.heap s.heap [] := va_S.rf
  have hP : va_P (dC, dI) vwCl [] s.heap := hP
  have hl := lv_entry ([.int 0, .int 5]) (n := 2) (Nat.le_of_ble_eq_true rfl)
  rw [lg_entry_eq]
  generalize (lg_sl ([.int 0, .int 5]) ++ List.replicate (2 - (lg_sl ([.int 0, .int 5])).length) Slot.unset).toArray = ls at hl ⊢
  have hl : lv_has ls 2 [(0, .int 0), (1, .int 5)] := hl
  refine lv_iload_n hx hb dJ7_checkLength_df160_0 rfl (lv_at hl 1 rfl) ?_
  refine lv_iload_n hx hb dJ7_checkLength_df160_1 rfl (lv_at hl 0 rfl) ?_
  refine lv_icmp_ge (tgt := 37) hx hb dJ7_checkLength_df160_2 (by decide) (fun c1 => ?_) (fun c1 => absurd (by decide) c1)
  have hP9 := hP.sub (ws' := []) [] rfl
  have hD9 := hD.sub (ws' := []) [] (by decide) rfl
  have hK9 := hK.sub (tys' := []) [] rfl
  refine W.widen (k := 0) (n := 0) (Nat.le_of_ble_eq_true rfl) (Nat.le_of_ble_eq_true rfl) ?_
  exact W.vret hx hb hr (fun t ht hW => ⟨⟨(), rfl, trivial, by rw [ht]; exact hP9, va_K.moved hW.alike hK9, hD9⟩, hS.F ht⟩) hS.2.2 dJ7_checkLength_df160_37
