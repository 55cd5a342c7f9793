
set_option maxHeartbeats 4000000 in
set_option maxRecDepth 100000 in
theorem ns_say_6_0 {p : Program} {l : Launch} {e : Env} {s : State} {m : MethodId} {args : Array Value} {below : List Frame} {meth : Method} {c : Code} {dC : Nat → ClassId} {dI : Nat → Nat → Nat} {g : Nat → Nat} {A : Nat → Prop} {Q : State → Prop} {h0 : Nat} {x0 : Int32} {x1 : Int32} {x2 : Int32} {x3 : Int32} {x4 : Int32} {x5 : Int32} {v1 : Value} {v2 : Value} {v3 : Value} {v4 : Value} {v5 : Value} {v6 : Value} {v7 : Value} {q1 : Nat} {cyq1 : ClassId} {H : Heap} {locs : List Loc} {ls : Array Slot} {E9 : Int32} (hE : E9 = 0) (ex0 : (-1 : Int) ≤ x0.toInt ∧ x0.toInt ≤ (21 : Int)) (ex1 : (-1 : Int) ≤ x1.toInt ∧ x1.toInt ≤ (21 : Int)) (ex2 : (-1 : Int) ≤ x2.toInt ∧ x2.toInt ≤ (21 : Int)) (ex3 : (-1 : Int) ≤ x3.toInt ∧ x3.toInt ≤ (21 : Int)) (ex4 : (-1 : Int) ≤ x4.toInt ∧ x4.toInt ≤ (21 : Int)) (ex5 : (-1 : Int) ≤ x5.toInt ∧ x5.toInt ≤ (21 : Int)) (hx : p.tables.exec = Jvm.exec) (hb : c.code = cX16_say) (hml : c.maxLocals = 14) (hown : s.vm.findClass RX16 = some m.cls) (hts : ∀ w ∈ wbX16_say, w.before args s = true) (hA : ∀ q : Nat, s.heap.size ≤ q → A q) (hF : ns_F g A s s.heap) (hK : va_K (dC, dI) vwCl [(cyq1, .int)] s) (hP : va_P (dC, dI) vwCl [(h0, .inr (23, [.int 0, v1, v2, v3, .ref (g 34), v4, v5, v6, v7])), (q1, .inl (cyq1, 6, .inl (upd (upd (upd (upd (upd (upd (fun _ => 0) 0 x0) 1 x1) 2 x2) 3 x3) 4 x4) 5 x5)))] H) (hD : va_D A [(h0, .inr (23, [.int 0, v1, v2, v3, .ref (g 34), v4, v5, v6, v7])), (q1, .inl (cyq1, 6, .inl (upd (upd (upd (upd (upd (upd (fun _ => 0) 0 x0) 1 x1) 2 x2) 3 x3) 4 x4) 5 x5)))]) (hS : va_S A s.heap H locs) (hl : lv_has ls 14 [(12, .int 6), (11, .int 6), (10, .ref q1), (9, .ref (g 34)), (0, .ref h0)]) (k09 : ∀ (H : Heap) (locs : List Loc) (ls : Array Slot), E9 = 0 → va_K (dC, dI) vwCl [(cyq1, .int)] s → va_P (dC, dI) vwCl [(h0, .inr (23, [.int 0, v1, v2, v3, .ref (g 34), v4, v5, v6, v7])), (q1, .inl (cyq1, 6, .inl (upd (upd (upd (upd (upd (upd (fun _ => 0) 0 x0) 1 x1) 2 x2) 3 x3) 4 x4) 5 x5)))] H → va_D A [(h0, .inr (23, [.int 0, v1, v2, v3, .ref (g 34), v4, v5, v6, v7])), (q1, .inl (cyq1, 6, .inl (upd (upd (upd (upd (upd (upd (fun _ => 0) 0 x0) 1 x1) 2 x2) 3 x3) 4 x4) 5 x5)))] → va_S A s.heap H locs → lv_has ls 14 [(9, .ref (g 34)), (0, .ref h0)] → W p l e ({ frames := 7, cells := 37, slots := 246, locals := 172 } : Room) s m args below meth c H locs 37 246 Q (F0 m 173 ls [])) (k19 : ∀ (t9 b9 : Nat) (cb9 : ClassId) (fb9 : Nat → Int32) (hb9 : sb_Fit fb9), ∀ (H : Heap) (locs : List Loc) (ls : Array Slot), E9 = 1 → va_K (dC, dI) vwCl [(cyq1, .int), (cb9, .byte)] s → va_P (dC, dI) vwCl [(h0, .inr (23, [.int 0, v1, v2, v3, .ref (g 34), v4, v5, v6, v7])), (q1, .inl (cyq1, 6, .inl (upd (upd (upd (upd (upd (upd (fun _ => 0) 0 x0) 1 x1) 2 x2) 3 x3) 4 x4) 5 x5))), (t9, .inr (0, [.ref b9, .int 0, .int 0, .int 0])), (b9, .inl (cb9, 1, .inl fb9))] H → va_D A [(h0, .inr (23, [.int 0, v1, v2, v3, .ref (g 34), v4, v5, v6, v7])), (q1, .inl (cyq1, 6, .inl (upd (upd (upd (upd (upd (upd (fun _ => 0) 0 x0) 1 x1) 2 x2) 3 x3) 4 x4) 5 x5))), (t9, .inr (0, [.ref b9, .int 0, .int 0, .int 0])), (b9, .inl (cb9, 1, .inl fb9))] → va_S A s.heap H locs → lv_has ls 14 [(9, .ref t9), (0, .ref h0)] → W p l e ({ frames := 7, cells := 37, slots := 246, locals := 172 } : Room) s m args below meth c H locs 37 246 Q (F0 m 173 ls [])) (k29 : ∀ (t9 b9 : Nat) (cb9 : ClassId) (fb9 : Nat → Int32) (hb9 : sb_Fit fb9), ∀ (H : Heap) (locs : List Loc) (ls : Array Slot), E9 = 2 → va_K (dC, dI) vwCl [(cyq1, .int), (cb9, .byte)] s → va_P (dC, dI) vwCl [(h0, .inr (23, [.int 0, v1, v2, v3, .ref (g 34), v4, v5, v6, v7])), (q1, .inl (cyq1, 6, .inl (upd (upd (upd (upd (upd (upd (fun _ => 0) 0 x0) 1 x1) 2 x2) 3 x3) 4 x4) 5 x5))), (t9, .inr (0, [.ref b9, .int 0, .int 0, .int 0])), (b9, .inl (cb9, 2, .inl fb9))] H → va_D A [(h0, .inr (23, [.int 0, v1, v2, v3, .ref (g 34), v4, v5, v6, v7])), (q1, .inl (cyq1, 6, .inl (upd (upd (upd (upd (upd (upd (fun _ => 0) 0 x0) 1 x1) 2 x2) 3 x3) 4 x4) 5 x5))), (t9, .inr (0, [.ref b9, .int 0, .int 0, .int 0])), (b9, .inl (cb9, 2, .inl fb9))] → va_S A s.heap H locs → lv_has ls 14 [(9, .ref t9), (0, .ref h0)] → W p l e ({ frames := 7, cells := 37, slots := 246, locals := 172 } : Room) s m args below meth c H locs 37 246 Q (F0 m 173 ls [])) (k39 : ∀ (t9 b9 : Nat) (cb9 : ClassId) (fb9 : Nat → Int32) (hb9 : sb_Fit fb9), ∀ (H : Heap) (locs : List Loc) (ls : Array Slot), E9 = 3 → va_K (dC, dI) vwCl [(cyq1, .int), (cb9, .byte)] s → va_P (dC, dI) vwCl [(h0, .inr (23, [.int 0, v1, v2, v3, .ref (g 34), v4, v5, v6, v7])), (q1, .inl (cyq1, 6, .inl (upd (upd (upd (upd (upd (upd (fun _ => 0) 0 x0) 1 x1) 2 x2) 3 x3) 4 x4) 5 x5))), (t9, .inr (0, [.ref b9, .int 0, .int 0, .int 0])), (b9, .inl (cb9, 3, .inl fb9))] H → va_D A [(h0, .inr (23, [.int 0, v1, v2, v3, .ref (g 34), v4, v5, v6, v7])), (q1, .inl (cyq1, 6, .inl (upd (upd (upd (upd (upd (upd (fun _ => 0) 0 x0) 1 x1) 2 x2) 3 x3) 4 x4) 5 x5))), (t9, .inr (0, [.ref b9, .int 0, .int 0, .int 0])), (b9, .inl (cb9, 3, .inl fb9))] → va_S A s.heap H locs → lv_has ls 14 [(9, .ref t9), (0, .ref h0)] → W p l e ({ frames := 7, cells := 37, slots := 246, locals := 172 } : Room) s m args below meth c H locs 37 246 Q (F0 m 173 ls [])) (k49 : ∀ (t9 b9 : Nat) (cb9 : ClassId) (fb9 : Nat → Int32) (hb9 : sb_Fit fb9), ∀ (H : Heap) (locs : List Loc) (ls : Array Slot), E9 = 4 → va_K (dC, dI) vwCl [(cyq1, .int), (cb9, .byte)] s → va_P (dC, dI) vwCl [(h0, .inr (23, [.int 0, v1, v2, v3, .ref (g 34), v4, v5, v6, v7])), (q1, .inl (cyq1, 6, .inl (upd (upd (upd (upd (upd (upd (fun _ => 0) 0 x0) 1 x1) 2 x2) 3 x3) 4 x4) 5 x5))), (t9, .inr (0, [.ref b9, .int 0, .int 0, .int 0])), (b9, .inl (cb9, 4, .inl fb9))] H → va_D A [(h0, .inr (23, [.int 0, v1, v2, v3, .ref (g 34), v4, v5, v6, v7])), (q1, .inl (cyq1, 6, .inl (upd (upd (upd (upd (upd (upd (fun _ => 0) 0 x0) 1 x1) 2 x2) 3 x3) 4 x4) 5 x5))), (t9, .inr (0, [.ref b9, .int 0, .int 0, .int 0])), (b9, .inl (cb9, 4, .inl fb9))] → va_S A s.heap H locs → lv_has ls 14 [(9, .ref t9), (0, .ref h0)] → W p l e ({ frames := 7, cells := 37, slots := 246, locals := 172 } : Room) s m args below meth c H locs 37 246 Q (F0 m 173 ls [])) (k59 : ∀ (t9 b9 : Nat) (cb9 : ClassId) (fb9 : Nat → Int32) (hb9 : sb_Fit fb9), ∀ (H : Heap) (locs : List Loc) (ls : Array Slot), E9 = 5 → va_K (dC, dI) vwCl [(cyq1, .int), (cb9, .byte)] s → va_P (dC, dI) vwCl [(h0, .inr (23, [.int 0, v1, v2, v3, .ref (g 34), v4, v5, v6, v7])), (q1, .inl (cyq1, 6, .inl (upd (upd (upd (upd (upd (upd (fun _ => 0) 0 x0) 1 x1) 2 x2) 3 x3) 4 x4) 5 x5))), (t9, .inr (0, [.ref b9, .int 0, .int 0, .int 0])), (b9, .inl (cb9, 5, .inl fb9))] H → va_D A [(h0, .inr (23, [.int 0, v1, v2, v3, .ref (g 34), v4, v5, v6, v7])), (q1, .inl (cyq1, 6, .inl (upd (upd (upd (upd (upd (upd (fun _ => 0) 0 x0) 1 x1) 2 x2) 3 x3) 4 x4) 5 x5))), (t9, .inr (0, [.ref b9, .int 0, .int 0, .int 0])), (b9, .inl (cb9, 5, .inl fb9))] → va_S A s.heap H locs → lv_has ls 14 [(9, .ref t9), (0, .ref h0)] → W p l e ({ frames := 7, cells := 37, slots := 246, locals := 172 } : Room) s m args below meth c H locs 37 246 Q (F0 m 173 ls [])) (k69 : ∀ (t9 b9 : Nat) (cb9 : ClassId) (fb9 : Nat → Int32) (hb9 : sb_Fit fb9), ∀ (H : Heap) (locs : List Loc) (ls : Array Slot), E9 = 6 → va_K (dC, dI) vwCl [(cyq1, .int), (cb9, .byte)] s → va_P (dC, dI) vwCl [(h0, .inr (23, [.int 0, v1, v2, v3, .ref (g 34), v4, v5, v6, v7])), (q1, .inl (cyq1, 6, .inl (upd (upd (upd (upd (upd (upd (fun _ => 0) 0 x0) 1 x1) 2 x2) 3 x3) 4 x4) 5 x5))), (t9, .inr (0, [.ref b9, .int 0, .int 0, .int 0])), (b9, .inl (cb9, 6, .inl fb9))] H → va_D A [(h0, .inr (23, [.int 0, v1, v2, v3, .ref (g 34), v4, v5, v6, v7])), (q1, .inl (cyq1, 6, .inl (upd (upd (upd (upd (upd (upd (fun _ => 0) 0 x0) 1 x1) 2 x2) 3 x3) 4 x4) 5 x5))), (t9, .inr (0, [.ref b9, .int 0, .int 0, .int 0])), (b9, .inl (cb9, 6, .inl fb9))] → va_S A s.heap H locs → lv_has ls 14 [(9, .ref t9), (0, .ref h0)] → W p l e ({ frames := 7, cells := 37, slots := 246, locals := 172 } : Room) s m args below meth c H locs 37 246 Q (F0 m 173 ls [])) : W p l e ({ frames := 7, cells := 37, slots := 246, locals := 172 } : Room) s m args below meth c H locs 37 246 Q (F0 m 119 ls []) := by
  have hta : ∀ w ∈ wsALL, w.before args s = true := fun w h => hts w (List.mem_cons_of_mem _ h)
  refine lv_iload hx hb dX16_say_119 (lv_at hl 0 rfl) ?_
  refine lv_iload hx hb dX16_say_121 (lv_at hl 1 rfl) ?_
  refine lv_icmp_ge (tgt := 173) hx hb dX16_say_123 (by decide) (fun c1001 => ?_) (fun c1001 => absurd (by decide) c1001)
  have hP := hP.sub (ws' := [(h0, .inr (23, [.int 0, v1, v2, v3, .ref (g 34), v4, v5, v6, v7])), (q1, .inl (cyq1, 6, .inl (upd (upd (upd (upd (upd (upd (fun _ => 0) 0 x0) 1 x1) 2 x2) 3 x3) 4 x4) 5 x5)))]) [0, 1] rfl
  have hD := hD.sub (ws' := [(h0, .inr (23, [.int 0, v1, v2, v3, .ref (g 34), v4, v5, v6, v7])), (q1, .inl (cyq1, 6, .inl (upd (upd (upd (upd (upd (upd (fun _ => 0) 0 x0) 1 x1) 2 x2) 3 x3) 4 x4) 5 x5)))]) [0, 1] (by decide) rfl
  have hK := hK.sub (tys' := [(cyq1, .int)]) [0] rfl
  have hl := lv_sub hl (l' := [(9, .ref (g 34)), (0, .ref h0)]) [3, 4] rfl
  refine W.widen (k := 37) (n := 246) (Nat.le_of_ble_eq_true rfl) (Nat.le_of_ble_eq_true rfl) ?_
  exact k09 _ _ _ hE hK hP hD hS hl
set_option maxHeartbeats 4000000 in
set_option maxRecDepth 100000 in
theorem kX4_add_15 (l : Launch) (dC : Nat → ClassId) (dI : Nat → Nat → Nat) (g : Nat → Nat) (sz : Nat) (h0 : Nat) (x0 : Int32) (h1 : Nat) (cc0 : ClassId) (f0 : Nat → Int32) (ex0 : (97 : Int) ≤ x0.toInt ∧ x0.toInt ≤ (122 : Int)) : Met l yX4_add wbX4_add ({ frames := 0, cells := 0, slots := 0, locals := 0 }) (va_Pc [.ref h0, .int x0] (fun U => U.heap.size = sz ∧ va_P (dC, dI) vwCl [(h0, .inr (11, [.ref h1, .int 6])), (h1, .inl (cc0, 4960, .inl f0))] U.heap ∧ va_K (dC, dI) vwCl [(cc0, .int)] U ∧ va_D (fun _ => True) [(h0, .inr (11, [.ref h1, .int 6])), (h1, .inl (cc0, 4960, .inl f0))] ∧ ns_F g (va_A [(h0, .inr (11, [.ref h1, .int 6])), (h1, .inl (cc0, 4960, .inl f0))] sz) U U.heap)) (va_Qv (fun _ : Unit => True) (fun _ t => va_P (dC, dI) vwCl [(h0, .inr (11, [.ref h1, .int 7])), (h1, .inl (cc0, 4960, .inl (upd (f0) 6 x0)))] t.heap ∧ va_K (dC, dI) vwCl [(cc0, .int)] t ∧ va_D (va_A [(h0, .inr (11, [.ref h1, .int 6])), (h1, .inl (cc0, 4960, .inl f0))] sz) [(h0, .inr (11, [.ref h1, .int 7])), (h1, .inl (cc0, 4960, .inl (upd (f0) 6 x0)))]) (va_A [(h0, .inr (11, [.ref h1, .int 6])), (h1, .inl (cc0, 4960, .inl f0))] sz)) 0 0 (va_A [(h0, .inr (11, [.ref h1, .int 6])), (h1, .inl (cc0, 4960, .inl f0))] sz) := by
  refine Met.ofW (cc := cX4_add) (maxL := 2) (ret := none) (by decide) rfl ?_
  intro p e s m args below meth c s₁ B hml hv
  obtain ⟨rfl, hsz, hP, hK, hD0, hF⟩ := hv
  have hx := B.exec
  have hb := B.bytes
  have hr := B.returns
  have hts := atoms_spec (ws := wbX4_add) B.pre
  have hta : ∀ w ∈ wsALL, w.before _ s = true := fun w h => hts w (List.mem_cons_of_mem _ h)
  have hown : s.vm.findClass RX4 = some m.cls := findClass_of_methodNamed B.named
  have hlocks := B.notSynchronized
  subst hsz
  have hD := hD0.self (sz := s.heap.size)
  generalize hAe : va_A [(h0, .inr (11, [.ref h1, .int 6])), (h1, .inl (cc0, 4960, .inl f0))] s.heap.size = A at hD hF ⊢
  have hA : ∀ q : Nat, s.heap.size ≤ q → A q := fun q h => by rw [← hAe]; exact Or.inr h
  have hS : va_S A s.heap s.heap [] := va_S.rf
  have hP : va_P (dC, dI) vwCl [(h0, .inr (11, [.ref h1, .int 6])), (h1, .inl (cc0, 4960, .inl f0))] s.heap := hP
  have hl := lv_entry ([.ref h0, .int x0]) (n := 2) (Nat.le_of_ble_eq_true rfl)
  rw [lg_entry_eq]
  generalize (lg_sl ([.ref h0, .int x0]) ++ List.replicate (2 - (lg_sl ([.ref h0, .int x0])).length) Slot.unset).toArray = ls at hl ⊢
  have hl : lv_has ls 2 [(0, .ref h0), (1, .int x0)] := hl
  refine lv_aload_n hx hb dX4_add_0 rfl (lv_at hl 0 rfl) ?_
  refine va_get (D := (dC, dI)) (ci := 11) (v := .int 6) (C := RX4) (T := TX4) (N := 2) hx hb hta naX4 hown hK hP 0 rfl rfl 1 (by decide) (hta _ wm14) (fun _ h9 => h9) rfl dX4_add_1 ?_
  refine lv_if_lt (tgt := 39) hx hb dX4_add_4 (by decide) (fun c1 => absurd c1 (by decide)) (fun c1 => ?_)
  refine lv_aload_n hx hb dX4_add_7 rfl (lv_at hl 0 rfl) ?_
  refine va_get (D := (dC, dI)) (ci := 11) (v := .int 6) (C := RX4) (T := TX4) (N := 2) hx hb hta naX4 hown hK hP 0 rfl rfl 1 (by decide) (hta _ wm14) (fun _ h9 => h9) rfl dX4_add_8 ?_
  refine lv_aload_n hx hb dX4_add_11 rfl (lv_at hl 0 rfl) ?_
  refine va_get (D := (dC, dI)) (ci := 11) (v := .ref h1) (C := RX4) (T := TX4) (N := 2) hx hb hta naX4 hown hK hP 0 rfl rfl 0 (by decide) (hta _ wm16) (fun _ h9 => h9) rfl dX4_add_12 ?_
  refine va_alen (v := 4960) hx hb hK hP 1 0 rfl rfl (show Int32.ofNat 4960 = 4960 by decide) dX4_add_15 ?_
  refine lv_icmp_ge (tgt := 39) hx hb dX4_add_16 (by decide) (fun c2 => absurd c2 (by decide)) (fun c2 => ?_)
  refine lv_aload_n hx hb dX4_add_19 rfl (lv_at hl 0 rfl) ?_
  refine va_get (D := (dC, dI)) (ci := 11) (v := .ref h1) (C := RX4) (T := TX4) (N := 2) hx hb hta naX4 hown hK hP 0 rfl rfl 0 (by decide) (hta _ wm16) (fun _ h9 => h9) rfl dX4_add_20 ?_
  refine lv_aload_n hx hb dX4_add_23 rfl (lv_at hl 0 rfl) ?_
  refine va_get (D := (dC, dI)) (ci := 11) (v := .int 6) (C := RX4) (T := TX4) (N := 2) hx hb hta naX4 hown hK hP 0 rfl rfl 1 (by decide) (hta _ wm14) (fun _ h9 => h9) rfl dX4_add_24 ?_
  refine lv_iload_n hx hb dX4_add_27 rfl (lv_at hl 1 rfl) ?_
  refine va_iast hx hb hK hP hD hS 1 0 rfl rfl (vp_in_nI (n := 6) (by decide) (by decide)) dX4_add_28 (fun H locs hP hD hS => ?_)
  have hP : va_P (dC, dI) vwCl [(h0, .inr (11, [.ref h1, .int 6])), (h1, .inl (cc0, 4960, .inl (upd (f0) 6 x0)))] H := hP
  have hD : va_D A [(h0, .inr (11, [.ref h1, .int 6])), (h1, .inl (cc0, 4960, .inl (upd (f0) 6 x0)))] := hD
  refine lv_aload_n hx hb dX4_add_29 rfl (lv_at hl 0 rfl) ?_
  refine lv_dup hx hb dX4_add_30 rfl ?_
  refine va_get (D := (dC, dI)) (ci := 11) (v := .int 6) (C := RX4) (T := TX4) (N := 2) hx hb hta naX4 hown hK hP 0 rfl rfl 1 (by decide) (hta _ wm14) (fun _ h9 => h9) rfl dX4_add_31 ?_
  refine lv_iconst (v := 1) hx hb dX4_add_34 (by decide) ?_
  refine lv_iadd hx hb dX4_add_35 ?_
  refine lv_topi (fun y3 ey3 => ?_)
  obtain rfl : y3 = 7 := ey3.trans (by decide)
  refine va_put (D := (dC, dI)) (ci := 11) (v := .int 7) (ty := .int) (C := RX4) (T := TX4) (N := 2) hx hb hta naX4 tyX4 tyX4_ok nmX4 hown hK hP hD hS 0 rfl rfl 1 (by decide) (hta _ wm14) (fun _ h9 => h9) rfl (by decide +kernel) rfl rfl (Nat.le_of_ble_eq_true rfl) dX4_add_36 (fun H locs hP hD hS => ?_)
  have hP : va_P (dC, dI) vwCl [(h0, .inr (11, [.ref h1, .int 7])), (h1, .inl (cc0, 4960, .inl (upd (f0) 6 x0)))] H := hP
  have hD : va_D A [(h0, .inr (11, [.ref h1, .int 7])), (h1, .inl (cc0, 4960, .inl (upd (f0) 6 x0)))] := hD
  have hP9 := hP.sub (ws' := [(h0, .inr (11, [.ref h1, .int 7])), (h1, .inl (cc0, 4960, .inl (upd (f0) 6 x0)))]) [0, 1] rfl
  have hD9 := hD.sub (ws' := [(h0, .inr (11, [.ref h1, .int 7])), (h1, .inl (cc0, 4960, .inl (upd (f0) 6 x0)))]) [0, 1] (by decide) rfl
  have hK9 := hK.sub (tys' := [(cc0, .int)]) [0] rfl
  refine W.widen (k := 0) (n := 0) (Nat.le_of_ble_eq_true rfl) (Nat.le_of_ble_eq_true rfl) ?_
  exact W.vret hx hb hr (fun t ht hW => ⟨⟨(), rfl, trivial, by rw [ht]; exact hP9, va_K.moved hW.alike hK9, hD9⟩, hS.F ht⟩) hS.2.2 dX4_add_39
set_option maxHeartbeats 4000000 in
set_option maxRecDepth 100000 in
theorem kX4_add_37 (l : Launch) (dC : Nat → ClassId) (dI : Nat → Nat → Nat) (g : Nat → Nat) (sz : Nat) (h0 : Nat) (x0 : Int32) (h1 : Nat) (cc0 : ClassId) (f0 : Nat → Int32) (ex0 : (-2147483648 : Int) ≤ x0.toInt ∧ x0.toInt ≤ (-2 : Int)) : Met l yX4_add wbX4_add ({ frames := 0, cells := 0, slots := 0, locals := 0 }) (va_Pc [.ref h0, .int x0] (fun U => U.heap.size = sz ∧ va_P (dC, dI) vwCl [(h0, .inr (11, [.ref h1, .int 5])), (h1, .inl (cc0, 6, .inl f0))] U.heap ∧ va_K (dC, dI) vwCl [(cc0, .int)] U ∧ va_D (fun _ => True) [(h0, .inr (11, [.ref h1, .int 5])), (h1, .inl (cc0, 6, .inl f0))] ∧ ns_F g (va_A [(h0, .inr (11, [.ref h1, .int 5])), (h1, .inl (cc0, 6, .inl f0))] sz) U U.heap)) (va_Qv (fun _ : Unit => True) (fun _ t => va_P (dC, dI) vwCl [(h0, .inr (11, [.ref h1, .int 6])), (h1, .inl (cc0, 6, .inl (upd (f0) 5 x0)))] t.heap ∧ va_K (dC, dI) vwCl [(cc0, .int)] t ∧ va_D (va_A [(h0, .inr (11, [.ref h1, .int 5])), (h1, .inl (cc0, 6, .inl f0))] sz) [(h0, .inr (11, [.ref h1, .int 6])), (h1, .inl (cc0, 6, .inl (upd (f0) 5 x0)))]) (va_A [(h0, .inr (11, [.ref h1, .int 5])), (h1, .inl (cc0, 6, .inl f0))] sz)) 0 0 (va_A [(h0, .inr (11, [.ref h1, .int 5])), (h1, .inl (cc0, 6, .inl f0))] sz) := by
  refine Met.ofW (cc := cX4_add) (maxL := 2) (ret := none) (by decide) rfl ?_
  intro p e s m args below meth c s₁ B hml hv
  obtain ⟨rfl, hsz, hP, hK, hD0, hF⟩ := hv
  have hx := B.exec
  have hb := B.bytes
  have hr := B.returns
  have hts := atoms_spec (ws := wbX4_add) B.pre
  have hta : ∀ w ∈ wsALL, w.before _ s = true := fun w h => hts w (List.mem_cons_of_mem _ h)
  have hown : s.vm.findClass RX4 = some m.cls := findClass_of_methodNamed B.named
  have hlocks := B.notSynchronized
  subst hsz
  have hD := hD0.self (sz := s.heap.size)
  generalize hAe : va_A [(h0, .inr (11, [.ref h1, .int 5])), (h1, .inl (cc0, 6, .inl f0))] s.heap.size = A at hD hF ⊢
  have hA : ∀ q : Nat, s.heap.size ≤ q → A q := fun q h => by rw [← hAe]; exact Or.inr h
  have hS : va_S A s.heap s.heap [] := va_S.rf
  have hP : va_P (dC, dI) vwCl [(h0, .inr (11, [.ref h1, .int 5])), (h1, .inl (cc0, 6, .inl f0))] s.heap := hP
  have hl := lv_entry ([.ref h0, .int x0]) (n := 2) (Nat.le_of_ble_eq_true rfl)
  rw [lg_entry_eq]
  generalize (lg_sl ([.ref h0, .int x0]) ++ List.replicate (2 - (lg_sl ([.ref h0, .int x0])).length) Slot.unset).toArray = ls at hl ⊢
  have hl : lv_has ls 2 [(0, .ref h0), (1, .int x0)] := hl
  refine lv_aload_n hx hb dX4_add_0 rfl (lv_at hl 0 rfl) ?_
  refine va_get (D := (dC, dI)) (ci := 11) (v := .int 5) (C := RX4) (T := TX4) (N := 2) hx hb hta naX4 hown hK hP 0 rfl rfl 1 (by decide) (hta _ wm14) (fun _ h9 => h9) rfl dX4_add_1 ?_
  refine lv_if_lt (tgt := 39) hx hb dX4_add_4 (by decide) (fun c1 => absurd c1 (by decide)) (fun c1 => ?_)
  refine lv_aload_n hx hb dX4_add_7 rfl (lv_at hl 0 rfl) ?_
  refine va_get (D := (dC, dI)) (ci := 11) (v := .int 5) (C := RX4) (T := TX4) (N := 2) hx hb hta naX4 hown hK hP 0 rfl rfl 1 (by decide) (hta _ wm14) (fun _ h9 => h9) rfl dX4_add_8 ?_
  refine lv_aload_n hx hb dX4_add_11 rfl (lv_at hl 0 rfl) ?_
  refine va_get (D := (dC, dI)) (ci := 11) (v := .ref h1) (C := RX4) (T := TX4) (N := 2) hx hb hta naX4 hown hK hP 0 rfl rfl 0 (by decide) (hta _ wm16) (fun _ h9 => h9) rfl dX4_add_12 ?_
  refine va_alen (v := 6) hx hb hK hP 1 0 rfl rfl (show Int32.ofNat 6 = 6 by decide) dX4_add_15 ?_
  refine lv_icmp_ge (tgt := 39) hx hb dX4_add_16 (by decide) (fun c2 => absurd c2 (by decide)) (fun c2 => ?_)
  refine lv_aload_n hx hb dX4_add_19 rfl (lv_at hl 0 rfl) ?_
  refine va_get (D := (dC, dI)) (ci := 11) (v := .ref h1) (C := RX4) (T := TX4) (N := 2) hx hb hta naX4 hown hK hP 0 rfl rfl 0 (by decide) (hta _ wm16) (fun _ h9 => h9) rfl dX4_add_20 ?_
  refine lv_aload_n hx hb dX4_add_23 rfl (lv_at hl 0 rfl) ?_
  refine va_get (D := (dC, dI)) (ci := 11) (v := .int 5) (C := RX4) (T := TX4) (N := 2) hx hb hta naX4 hown hK hP 0 rfl rfl 1 (by decide) (hta _ wm14) (fun _ h9 => h9) rfl dX4_add_24 ?_
  refine lv_iload_n hx hb dX4_add_27 rfl (lv_at hl 1 rfl) ?_
  refine va_iast hx hb hK hP hD hS 1 0 rfl rfl (vp_in_nI (n := 5) (by decide) (by decide)) dX4_add_28 (fun H locs hP hD hS => ?_)
  have hP : va_P (dC, dI) vwCl [(h0, .inr (11, [.ref h1, .int 5])), (h1, .inl (cc0, 6, .inl (upd (f0) 5 x0)))] H := hP
  have hD : va_D A [(h0, .inr (11, [.ref h1, .int 5])), (h1, .inl (cc0, 6, .inl (upd (f0) 5 x0)))] := hD
  refine lv_aload_n hx hb dX4_add_29 rfl (lv_at hl 0 rfl) ?_
  refine lv_dup hx hb dX4_add_30 rfl ?_
  refine va_get (D := (dC, dI)) (ci := 11) (v := .int 5) (C := RX4) (T := TX4) (N := 2) hx hb hta naX4 hown hK hP 0 rfl rfl 1 (by decide) (hta _ wm14) (fun _ h9 => h9) rfl dX4_add_31 ?_
  refine lv_iconst (v := 1) hx hb dX4_add_34 (by decide) ?_
  refine lv_iadd hx hb dX4_add_35 ?_
  refine lv_topi (fun y3 ey3 => ?_)
  obtain rfl : y3 = 6 := ey3.trans (by decide)
  refine va_put (D := (dC, dI)) (ci := 11) (v := .int 6) (ty := .int) (C := RX4) (T := TX4) (N := 2) hx hb hta naX4 tyX4 tyX4_ok nmX4 hown hK hP hD hS 0 rfl rfl 1 (by decide) (hta _ wm14) (fun _ h9 => h9) rfl (by decide +kernel) rfl rfl (Nat.le_of_ble_eq_true rfl) dX4_add_36 (fun H locs hP hD hS => ?_)
  have hP : va_P (dC, dI) vwCl [(h0, .inr (11, [.ref h1, .int 6])), (h1, .inl (cc0, 6, .inl (upd (f0) 5 x0)))] H := hP
  have hD : va_D A [(h0, .inr (11, [.ref h1, .int 6])), (h1, .inl (cc0, 6, .inl (upd (f0) 5 x0)))] := hD
  have hP9 := hP.sub (ws' := [(h0, .inr (11, [.ref h1, .int 6])), (h1, .inl (cc0, 6, .inl (upd (f0) 5 x0)))]) [0, 1] rfl
  have hD9 := hD.sub (ws' := [(h0, .inr (11, [.ref h1, .int 6])), (h1, .inl (cc0, 6, .inl (upd (f0) 5 x0)))]) [0, 1] (by decide) rfl
  have hK9 := hK.sub (tys' := [(cc0, .int)]) [0] rfl
  refine W.widen (k := 0) (n := 0) (Nat.le_of_ble_eq_true rfl) (Nat.le_of_ble_eq_true rfl) ?_
  exact W.vret hx hb hr (fun t ht hW => ⟨⟨(), rfl, trivial, by rw [ht]; exact hP9, va_K.moved hW.alike hK9, hD9⟩, hS.F ht⟩) hS.2.2 dX4_add_39
set_option maxHeartbeats 4000000 in
set_option maxRecDepth 100000 in
theorem kX4_add_12 (l : Launch) (dC : Nat → ClassId) (dI : Nat → Nat → Nat) (g : Nat → Nat) (sz : Nat) (h0 : Nat) (h1 : Nat) (cc0 : ClassId) (f0 : Nat → Int32) : Met l yX4_add wbX4_add ({ frames := 0, cells := 0, slots := 0, locals := 0 }) (va_Pc [.ref h0, .int 5] (fun U => U.heap.size = sz ∧ va_P (dC, dI) vwCl [(h0, .inr (11, [.ref h1, .int 0])), (h1, .inl (cc0, 4960, .inl f0))] U.heap ∧ va_K (dC, dI) vwCl [(cc0, .int)] U ∧ va_D (fun _ => True) [(h0, .inr (11, [.ref h1, .int 0])), (h1, .inl (cc0, 4960, .inl f0))] ∧ ns_F g (va_A [(h0, .inr (11, [.ref h1, .int 0])), (h1, .inl (cc0, 4960, .inl f0))] sz) U U.heap)) (va_Qv (fun _ : Unit => True) (fun _ t => va_P (dC, dI) vwCl [(h0, .inr (11, [.ref h1, .int 1])), (h1, .inl (cc0, 4960, .inl (upd (f0) 0 5)))] t.heap ∧ va_K (dC, dI) vwCl [(cc0, .int)] t ∧ va_D (va_A [(h0, .inr (11, [.ref h1, .int 0])), (h1, .inl (cc0, 4960, .inl f0))] sz) [(h0, .inr (11, [.ref h1, .int 1])), (h1, .inl (cc0, 4960, .inl (upd (f0) 0 5)))]) (va_A [(h0, .inr (11, [.ref h1, .int 0])), (h1, .inl (cc0, 4960, .inl f0))] sz)) 0 0 (va_A [(h0, .inr (11, [.ref h1, .int 0])), (h1, .inl (cc0, 4960, .inl f0))] sz) := by
  refine Met.ofW (cc := cX4_add) (maxL := 2) (ret := none) (by decide) rfl ?_
  intro p e s m args below meth c s₁ B hml hv
  obtain ⟨rfl, hsz, hP, hK, hD0, hF⟩ := hv
  have hx := B.exec
  have hb := B.bytes
  have hr := B.returns
  have hts := atoms_spec (ws := wbX4_add) B.pre
  have hta : ∀ w ∈ wsALL, w.before _ s = true := fun w h => hts w (List.mem_cons_of_mem _ h)
  have hown : s.vm.findClass RX4 = some m.cls := findClass_of_methodNamed B.named
  have hlocks := B.notSynchronized
  subst hsz
  have hD := hD0.self (sz := s.heap.size)
  generalize hAe : va_A [(h0, .inr (11, [.ref h1, .int 0])), (h1, .inl (cc0, 4960, .inl f0))] s.heap.size = A at hD hF ⊢
  have hA : ∀ q : Nat, s.heap.size ≤ q → A q := fun q h => by rw [← hAe]; exact Or.inr h
  have hS : va_S A s.heap s.heap [] := va_S.rf
  have hP : va_P (dC, dI) vwCl [(h0, .inr (11, [.ref h1, .int 0])), (h1, .inl (cc0, 4960, .inl f0))] s.heap := hP
  have hl := lv_entry ([.ref h0, .int 5]) (n := 2) (Nat.le_of_ble_eq_true rfl)
  rw [lg_entry_eq]
  generalize (lg_sl ([.ref h0, .int 5]) ++ List.replicate (2 - (lg_sl ([.ref h0, .int 5])).length) Slot.unset).toArray = ls at hl ⊢
  have hl : lv_has ls 2 [(0, .ref h0), (1, .int 5)] := hl
  refine lv_aload_n hx hb dX4_add_0 rfl (lv_at hl 0 rfl) ?_
  refine va_get (D := (dC, dI)) (ci := 11) (v := .int 0) (C := RX4) (T := TX4) (N := 2) hx hb hta naX4 hown hK hP 0 rfl rfl 1 (by decide) (hta _ wm14) (fun _ h9 => h9) rfl dX4_add_1 ?_
  refine lv_if_lt (tgt := 39) hx hb dX4_add_4 (by decide) (fun c1 => absurd c1 (by decide)) (fun c1 => ?_)
  refine lv_aload_n hx hb dX4_add_7 rfl (lv_at hl 0 rfl) ?_
  refine va_get (D := (dC, dI)) (ci := 11) (v := .int 0) (C := RX4) (T := TX4) (N := 2) hx hb hta naX4 hown hK hP 0 rfl rfl 1 (by decide) (hta _ wm14) (fun _ h9 => h9) rfl dX4_add_8 ?_
  refine lv_aload_n hx hb dX4_add_11 rfl (lv_at hl 0 rfl) ?_
  refine va_get (D := (dC, dI)) (ci := 11) (v := .ref h1) (C := RX4) (T := TX4) (N := 2) hx hb hta naX4 hown hK hP 0 rfl rfl 0 (by decide) (hta _ wm16) (fun _ h9 => h9) rfl dX4_add_12 ?_
  refine va_alen (v := 4960) hx hb hK hP 1 0 rfl rfl (show Int32.ofNat 4960 = 4960 by decide) dX4_add_15 ?_
  refine lv_icmp_ge (tgt := 39) hx hb dX4_add_16 (by decide) (fun c2 => absurd c2 (by decide)) (fun c2 => ?_)
  refine lv_aload_n hx hb dX4_add_19 rfl (lv_at hl 0 rfl) ?_
  refine va_get (D := (dC, dI)) (ci := 11) (v := .ref h1) (C := RX4) (T := TX4) (N := 2) hx hb hta naX4 hown hK hP 0 rfl rfl 0 (by decide) (hta _ wm16) (fun _ h9 => h9) rfl dX4_add_20 ?_
  refine lv_aload_n hx hb dX4_add_23 rfl (lv_at hl 0 rfl) ?_
  refine va_get (D := (dC, dI)) (ci := 11) (v := .int 0) (C := RX4) (T := TX4) (N := 2) hx hb hta naX4 hown hK hP 0 rfl rfl 1 (by decide) (hta _ wm14) (fun _ h9 => h9) rfl dX4_add_24 ?_
  refine lv_iload_n hx hb dX4_add_27 rfl (lv_at hl 1 rfl) ?_
  refine va_iast hx hb hK hP hD hS 1 0 rfl rfl (vp_in_nI (n := 0) (by decide) (by decide)) dX4_add_28 (fun H locs hP hD hS => ?_)
  have hP : va_P (dC, dI) vwCl [(h0, .inr (11, [.ref h1, .int 0])), (h1, .inl (cc0, 4960, .inl (upd (f0) 0 5)))] H := hP
  have hD : va_D A [(h0, .inr (11, [.ref h1, .int 0])), (h1, .inl (cc0, 4960, .inl (upd (f0) 0 5)))] := hD
  refine lv_aload_n hx hb dX4_add_29 rfl (lv_at hl 0 rfl) ?_
  refine lv_dup hx hb dX4_add_30 rfl ?_
  refine va_get (D := (dC, dI)) (ci := 11) (v := .int 0) (C := RX4) (T := TX4) (N := 2) hx hb hta naX4 hown hK hP 0 rfl rfl 1 (by decide) (hta _ wm14) (fun _ h9 => h9) rfl dX4_add_31 ?_
  refine lv_iconst (v := 1) hx hb dX4_add_34 (by decide) ?_
  refine lv_iadd hx hb dX4_add_35 ?_
  refine lv_topi (fun y3 ey3 => ?_)
  obtain rfl : y3 = 1 := ey3.trans (by decide)
  refine va_put (D := (dC, dI)) (ci := 11) (v := .int 1) (ty := .int) (C := RX4) (T := TX4) (N := 2) hx hb hta naX4 tyX4 tyX4_ok nmX4 hown hK hP hD hS 0 rfl rfl 1 (by decide) (hta _ wm14) (fun _ h9 => h9) rfl (by decide +kernel) rfl rfl (Nat.le_of_ble_eq_true rfl) dX4_add_36 (fun H locs hP hD hS => ?_)
  have hP : va_P (dC, dI) vwCl [(h0, .inr (11, [.ref h1, .int 1])), (h1, .inl (cc0, 4960, .inl (upd (f0) 0 5)))] H := hP
  have hD : va_D A [(h0, .inr (11, [.ref h1, .int 1])), (h1, .inl (cc0, 4960, .inl (upd (f0) 0 5)))] := hD
  have hP9 := hP.sub (ws' := [(h0, .inr (11, [.ref h1, .int 1])), (h1, .inl (cc0, 4960, .inl (upd (f0) 0 5)))]) [0, 1] rfl
  have hD9 := hD.sub (ws' := [(h0, .inr (11, [.ref h1, .int 1])), (h1, .inl (cc0, 4960, .inl (upd (f0) 0 5)))]) [0, 1] (by decide) rfl
  have hK9 := hK.sub (tys' := [(cc0, .int)]) [0] rfl
  refine W.widen (k := 0) (n := 0) (Nat.le_of_ble_eq_true rfl) (Nat.le_of_ble_eq_true rfl) ?_
  exact W.vret hx hb hr (fun t ht hW => ⟨⟨(), rfl, trivial, by rw [ht]; exact hP9, va_K.moved hW.alike hK9, hD9⟩, hS.F ht⟩) hS.2.2 dX4_add_39
set_option maxHeartbeats 4000000 in
set_option maxRecDepth 100000 in
theorem kX4_add_4 (l : Launch) (dC : Nat → ClassId) (dI : Nat → Nat → Nat) (g : Nat → Nat) (sz : Nat) (h0 : Nat) (h1 : Nat) (cc0 : ClassId) (f0 : Nat → Int32) : Met l yX4_add wbX4_add ({ frames := 0, cells := 0, slots := 0, locals := 0 }) (va_Pc [.ref h0, .int 0] (fun U => U.heap.size = sz ∧ va_P (dC, dI) vwCl [(h0, .inr (11, [.ref h1, .int 0])), (h1, .inl (cc0, 80, .inl f0))] U.heap ∧ va_K (dC, dI) vwCl [(cc0, .int)] U ∧ va_D (fun _ => True) [(h0, .inr (11, [.ref h1, .int 0])), (h1, .inl (cc0, 80, .inl f0))] ∧ ns_F g (va_A [(h0, .inr (11, [.ref h1, .int 0])), (h1, .inl (cc0, 80, .inl f0))] sz) U U.heap)) (va_Qv (fun _ : Unit => True) (fun _ t => va_P (dC, dI) vwCl [(h0, .inr (11, [.ref h1, .int 1])), (h1, .inl (cc0, 80, .inl (upd (f0) 0 0)))] t.heap ∧ va_K (dC, dI) vwCl [(cc0, .int)] t ∧ va_D (va_A [(h0, .inr (11, [.ref h1, .int 0])), (h1, .inl (cc0, 80, .inl f0))] sz) [(h0, .inr (11, [.ref h1, .int 1])), (h1, .inl (cc0, 80, .inl (upd (f0) 0 0)))]) (va_A [(h0, .inr (11, [.ref h1, .int 0])), (h1, .inl (cc0, 80, .inl f0))] sz)) 0 0 (va_A [(h0, .inr (11, [.ref h1, .int 0])), (h1, .inl (cc0, 80, .inl f0))] sz) := by
  refine Met.ofW (cc := cX4_add) (maxL := 2) (ret := none) (by decide) rfl ?_
  intro p e s m args below meth c s₁ B hml hv
  obtain ⟨rfl, hsz, hP, hK, hD0, hF⟩ := hv
  have hx := B.exec
  have hb := B.bytes
  have hr := B.returns
  have hts := atoms_spec (ws := wbX4_add) B.pre
  have hta : ∀ w ∈ wsALL, w.before _ s = true := fun w h => hts w (List.mem_cons_of_mem _ h)
  have hown : s.vm.findClass RX4 = some m.cls := findClass_of_methodNamed B.named
  have hlocks := B.notSynchronized
  subst hsz
  have hD := hD0.self (sz := s.heap.size)
  generalize hAe : va_A [(h0, .inr (11, [.ref h1, .int 0])), (h1, .inl (cc0, 80, .inl f0))] s.heap.size = A at hD hF ⊢
  have hA : ∀ q : Nat, s.heap.size ≤ q → A q := fun q h => by rw [← hAe]; exact Or.inr h
  have hS : va_S A s.heap s.heap [] := va_S.rf
  have hP : va_P (dC, dI) vwCl [(h0, .inr (11, [.ref h1, .int 0])), (h1, .inl (cc0, 80, .inl f0))] s.heap := hP
  have hl := lv_entry ([.ref h0, .int 0]) (n := 2) (Nat.le_of_ble_eq_true rfl)
  rw [lg_entry_eq]
  generalize (lg_sl ([.ref h0, .int 0]) ++ List.replicate (2 - (lg_sl ([.ref h0, .int 0])).length) Slot.unset).toArray = ls at hl ⊢
  have hl : lv_has ls 2 [(0, .ref h0), (1, .int 0)] := hl
  refine lv_aload_n hx hb dX4_add_0 rfl (lv_at hl 0 rfl) ?_
  refine va_get (D := (dC, dI)) (ci := 11) (v := .int 0) (C := RX4) (T := TX4) (N := 2) hx hb hta naX4 hown hK hP 0 rfl rfl 1 (by decide) (hta _ wm14) (fun _ h9 => h9) rfl dX4_add_1 ?_
  refine lv_if_lt (tgt := 39) hx hb dX4_add_4 (by decide) (fun c1 => absurd c1 (by decide)) (fun c1 => ?_)
  refine lv_aload_n hx hb dX4_add_7 rfl (lv_at hl 0 rfl) ?_
  refine va_get (D := (dC, dI)) (ci := 11) (v := .int 0) (C := RX4) (T := TX4) (N := 2) hx hb hta naX4 hown hK hP 0 rfl rfl 1 (by decide) (hta _ wm14) (fun _ h9 => h9) rfl dX4_add_8 ?_
  refine lv_aload_n hx hb dX4_add_11 rfl (lv_at hl 0 rfl) ?_
  refine va_get (D := (dC, dI)) (ci := 11) (v := .ref h1) (C := RX4) (T := TX4) (N := 2) hx hb hta naX4 hown hK hP 0 rfl rfl 0 (by decide) (hta _ wm16) (fun _ h9 => h9) rfl dX4_add_12 ?_
  refine va_alen (v := 80) hx hb hK hP 1 0 rfl rfl (show Int32.ofNat 80 = 80 by decide) dX4_add_15 ?_
  refine lv_icmp_ge (tgt := 39) hx hb dX4_add_16 (by decide) (fun c2 => absurd c2 (by decide)) (fun c2 => ?_)
  refine lv_aload_n hx hb dX4_add_19 rfl (lv_at hl 0 rfl) ?_
  refine va_get (D := (dC, dI)) (ci := 11) (v := .ref h1) (C := RX4) (T := TX4) (N := 2) hx hb hta naX4 hown hK hP 0 rfl rfl 0 (by decide) (hta _ wm16) (fun _ h9 => h9) rfl dX4_add_20 ?_
  refine lv_aload_n hx hb dX4_add_23 rfl (lv_at hl 0 rfl) ?_
  refine va_get (D := (dC, dI)) (ci := 11) (v := .int 0) (C := RX4) (T := TX4) (N := 2) hx hb hta naX4 hown hK hP 0 rfl rfl 1 (by decide) (hta _ wm14) (fun _ h9 => h9) rfl dX4_add_24 ?_
  refine lv_iload_n hx hb dX4_add_27 rfl (lv_at hl 1 rfl) ?_
  refine va_iast hx hb hK hP hD hS 1 0 rfl rfl (vp_in_nI (n := 0) (by decide) (by decide)) dX4_add_28 (fun H locs hP hD hS => ?_)
  have hP : va_P (dC, dI) vwCl [(h0, .inr (11, [.ref h1, .int 0])), (h1, .inl (cc0, 80, .inl (upd (f0) 0 0)))] H := hP
  have hD : va_D A [(h0, .inr (11, [.ref h1, .int 0])), (h1, .inl (cc0, 80, .inl (upd (f0) 0 0)))] := hD
  refine lv_aload_n hx hb dX4_add_29 rfl (lv_at hl 0 rfl) ?_
  refine lv_dup hx hb dX4_add_30 rfl ?_
  refine va_get (D := (dC, dI)) (ci := 11) (v := .int 0) (C := RX4) (T := TX4) (N := 2) hx hb hta naX4 hown hK hP 0 rfl rfl 1 (by decide) (hta _ wm14) (fun _ h9 => h9) rfl dX4_add_31 ?_
  refine lv_iconst (v := 1) hx hb dX4_add_34 (by decide) ?_
  refine lv_iadd hx hb dX4_add_35 ?_
  refine lv_topi (fun y3 ey3 => ?_)
  obtain rfl : y3 = 1 := ey3.trans (by decide)
  refine va_put (D := (dC, dI)) (ci := 11) (v := .int 1) (ty := .int) (C := RX4) (T := TX4) (N := 2) hx hb hta naX4 tyX4 tyX4_ok nmX4 hown hK hP hD hS 0 rfl rfl 1 (by decide) (hta _ wm14) (fun _ h9 => h9) rfl (by decide +kernel) rfl rfl (Nat.le_of_ble_eq_true rfl) dX4_add_36 (fun H locs hP hD hS => ?_)
  have hP : va_P (dC, dI) vwCl [(h0, .inr (11, [.ref h1, .int 1])), (h1, .inl (cc0, 80, .inl (upd (f0) 0 0)))] H := hP
  have hD : va_D A [(h0, .inr (11, [.ref h1, .int 1])), (h1, .inl (cc0, 80, .inl (upd (f0) 0 0)))] := hD
  have hP9 := hP.sub (ws' := [(h0, .inr (11, [.ref h1, .int 1])), (h1, .inl (cc0, 80, .inl (upd (f0) 0 0)))]) [0, 1] rfl
  have hD9 := hD.sub (ws' := [(h0, .inr (11, [.ref h1, .int 1])), (h1, .inl (cc0, 80, .inl (upd (f0) 0 0)))]) [0, 1] (by decide) rfl
  have hK9 := hK.sub (tys' := [(cc0, .int)]) [0] rfl
  refine W.widen (k := 0) (n := 0) (Nat.le_of_ble_eq_true rfl) (Nat.le_of_ble_eq_true rfl) ?_
  exact W.vret hx hb hr (fun t ht hW => ⟨⟨(), rfl, trivial, by rw [ht]; exact hP9, va_K.moved hW.alike hK9, hD9⟩, hS.F ht⟩) hS.2.2 dX4_add_39
set_option maxHeartbeats 4000000 in
set_option maxRecDepth 100000 in
theorem kX4_get_22 (l : Launch) (dC : Nat → ClassId) (dI : Nat → Nat → Nat) (g : Nat → Nat) (sz : Nat) (h0 : Nat) (h1 : Nat) (cc0 : ClassId) (x0 : Int32) (x1 : Int32) (x2 : Int32) (x3 : Int32) (x4 : Int32) (x5 : Int32) (ex0 : (-1 : Int) ≤ x0.toInt ∧ x0.toInt ≤ (21 : Int)) (ex1 : (-1 : Int) ≤ x1.toInt ∧ x1.toInt ≤ (21 : Int)) (ex2 : (-1 : Int) ≤ x2.toInt ∧ x2.toInt ≤ (21 : Int)) (ex3 : (-1 : Int) ≤ x3.toInt ∧ x3.toInt ≤ (21 : Int)) (ex4 : (-1 : Int) ≤ x4.toInt ∧ x4.toInt ≤ (21 : Int)) (ex5 : (-1 : Int) ≤ x5.toInt ∧ x5.toInt ≤ (21 : Int)) : Met l yX4_get wbX4_get ({ frames := 0, cells := 0, slots := 0, locals := 0 }) (va_Pc [.ref h0, .int 0] (fun U => U.heap.size = sz ∧ va_P (dC, dI) vwCl [(h0, .inr (11, [.ref h1, .int 6])), (h1, .inl (cc0, 6, .inl (upd (upd (upd (upd (upd (upd (fun _ => 0) 0 x0) 1 x1) 2 x2) 3 x3) 4 x4) 5 x5)))] U.heap ∧ va_K (dC, dI) vwCl [(cc0, .int)] U ∧ va_D (fun _ => True) [(h0, .inr (11, [.ref h1, .int 6])), (h1, .inl (cc0, 6, .inl (upd (upd (upd (upd (upd (upd (fun _ => 0) 0 x0) 1 x1) 2 x2) 3 x3) 4 x4) 5 x5)))] ∧ ns_F g (va_A [(h0, .inr (11, [.ref h1, .int 6])), (h1, .inl (cc0, 6, .inl (upd (upd (upd (upd (upd (upd (fun _ => 0) 0 x0) 1 x1) 2 x2) 3 x3) 4 x4) 5 x5)))] sz) U U.heap)) (va_Qi (fun (r : Int32) (_ : Unit) => r = x0) (fun _ t => va_P (dC, dI) vwCl [(h0, .inr (11, [.ref h1, .int 6])), (h1, .inl (cc0, 6, .inl (upd (upd (upd (upd (upd (upd (fun _ => 0) 0 x0) 1 x1) 2 x2) 3 x3) 4 x4) 5 x5)))] t.heap ∧ va_K (dC, dI) vwCl [(cc0, .int)] t ∧ va_D (va_A [(h0, .inr (11, [.ref h1, .int 6])), (h1, .inl (cc0, 6, .inl (upd (upd (upd (upd (upd (upd (fun _ => 0) 0 x0) 1 x1) 2 x2) 3 x3) 4 x4) 5 x5)))] sz) [(h0, .inr (11, [.ref h1, .int 6])), (h1, .inl (cc0, 6, .inl (upd (upd (upd (upd (upd (upd (fun _ => 0) 0 x0) 1 x1) 2 x2) 3 x3) 4 x4) 5 x5)))]) (va_A [(h0, .inr (11, [.ref h1, .int 6])), (h1, .inl (cc0, 6, .inl (upd (upd (upd (upd (upd (upd (fun _ => 0) 0 x0) 1 x1) 2 x2) 3 x3) 4 x4) 5 x5)))] sz)) 0 0 (va_A [(h0, .inr (11, [.ref h1, .int 6])), (h1, .inl (cc0, 6, .inl (upd (upd (upd (upd (upd (upd (fun _ => 0) 0 x0) 1 x1) 2 x2) 3 x3) 4 x4) 5 x5)))] sz) := by
  refine Met.ofW (cc := cX4_get) (maxL := 2) (ret := (some .int)) (by decide) rfl ?_
  intro p e s m args below meth c s₁ B hml hv
  obtain ⟨rfl, hsz, hP, hK, hD0, hF⟩ := hv
  have hx := B.exec
  have hb := B.bytes
  have hr := B.returns
  have hts := atoms_spec (ws := wbX4_get) B.pre
  have hta : ∀ w ∈ wsALL, w.before _ s = true := fun w h => hts w (List.mem_cons_of_mem _ h)
  have hown : s.vm.findClass RX4 = some m.cls := findClass_of_methodNamed B.named
  have hlocks := B.notSynchronized
  subst hsz
  have hD := hD0.self (sz := s.heap.size)
  generalize hAe : va_A [(h0, .inr (11, [.ref h1, .int 6])), (h1, .inl (cc0, 6, .inl (upd (upd (upd (upd (upd (upd (fun _ => 0) 0 x0) 1 x1) 2 x2) 3 x3) 4 x4) 5 x5)))] s.heap.size = A at hD hF ⊢
  have hA : ∀ q : Nat, s.heap.size ≤ q → A q := fun q h => by rw [← hAe]; exact Or.inr h
  have hS : va_S A s.heap s.heap [] := va_S.rf
  have hP : va_P (dC, dI) vwCl [(h0, .inr (11, [.ref h1, .int 6])), (h1, .inl (cc0, 6, .inl (upd (upd (upd (upd (upd (upd (fun _ => 0) 0 x0) 1 x1) 2 x2) 3 x3) 4 x4) 5 x5)))] s.heap := hP
  have hl := lv_entry ([.ref h0, .int 0]) (n := 2) (Nat.le_of_ble_eq_true rfl)
  rw [lg_entry_eq]
  generalize (lg_sl ([.ref h0, .int 0]) ++ List.replicate (2 - (lg_sl ([.ref h0, .int 0])).length) Slot.unset).toArray = ls at hl ⊢
  have hl : lv_has ls 2 [(0, .ref h0), (1, .int 0)] := hl
  refine lv_iload_n hx hb dX4_get_0 rfl (lv_at hl 1 rfl) ?_
  refine lv_if_lt (tgt := 30) hx hb dX4_get_1 (by decide) (fun c1 => absurd c1 (by decide)) (fun c1 => ?_)
  refine lv_iload_n hx hb dX4_get_4 rfl (lv_at hl 1 rfl) ?_
  refine lv_aload_n hx hb dX4_get_5 rfl (lv_at hl 0 rfl) ?_
  refine va_get (D := (dC, dI)) (ci := 11) (v := .int 6) (C := RX4) (T := TX4) (N := 2) hx hb hta naX4 hown hK hP 0 rfl rfl 1 (by decide) (hta _ wm14) (fun _ h9 => h9) rfl dX4_get_6 ?_
  refine lv_icmp_ge (tgt := 30) hx hb dX4_get_9 (by decide) (fun c2 => absurd c2 (by decide)) (fun c2 => ?_)
  refine lv_iload_n hx hb dX4_get_12 rfl (lv_at hl 1 rfl) ?_
  refine lv_aload_n hx hb dX4_get_13 rfl (lv_at hl 0 rfl) ?_
  refine va_get (D := (dC, dI)) (ci := 11) (v := .ref h1) (C := RX4) (T := TX4) (N := 2) hx hb hta naX4 hown hK hP 0 rfl rfl 0 (by decide) (hta _ wm16) (fun _ h9 => h9) rfl dX4_get_14 ?_
  refine va_alen (v := 6) hx hb hK hP 1 0 rfl rfl (show Int32.ofNat 6 = 6 by decide) dX4_get_17 ?_
  refine lv_icmp_ge (tgt := 30) hx hb dX4_get_18 (by decide) (fun c3 => absurd c3 (by decide)) (fun c3 => ?_)
  refine lv_aload_n hx hb dX4_get_21 rfl (lv_at hl 0 rfl) ?_
  refine va_get (D := (dC, dI)) (ci := 11) (v := .ref h1) (C := RX4) (T := TX4) (N := 2) hx hb hta naX4 hown hK hP 0 rfl rfl 0 (by decide) (hta _ wm16) (fun _ h9 => h9) rfl dX4_get_22 ?_
  refine lv_iload_n hx hb dX4_get_25 rfl (lv_at hl 1 rfl) ?_
  refine va_iald hx hb hK hP 1 0 rfl rfl (vp_in_nI (n := 0) (by decide) (by decide)) dX4_get_26 ?_
  refine lv_topi (fun y4 ey4 => ?_)
  obtain rfl : x0 = y4 := ey4.symm
  refine lv_goto (tgt := 31) hx hb dX4_get_27 (by decide) ?_
  have hP9 := hP.sub (ws' := [(h0, .inr (11, [.ref h1, .int 6])), (h1, .inl (cc0, 6, .inl (upd (upd (upd (upd (upd (upd (fun _ => 0) 0 x0) 1 x1) 2 x2) 3 x3) 4 x4) 5 x5)))]) [0, 1] rfl
  have hD9 := hD.sub (ws' := [(h0, .inr (11, [.ref h1, .int 6])), (h1, .inl (cc0, 6, .inl (upd (upd (upd (upd (upd (upd (fun _ => 0) 0 x0) 1 x1) 2 x2) 3 x3) 4 x4) 5 x5)))]) [0, 1] (by decide) rfl
  have hK9 := hK.sub (tys' := [(cc0, .int)]) [0] rfl
  refine W.widen (k := 0) (n := 0) (Nat.le_of_ble_eq_true rfl) (Nat.le_of_ble_eq_true rfl) ?_
  exact W.iret (v := x0) hx hb hr (fun t ht hW => ⟨⟨_, (), rfl, rfl, by rw [ht]; exact hP9, va_K.moved hW.alike hK9, hD9⟩, hS.F ht⟩) hS.2.2 dX4_get_31
set_option maxHeartbeats 4000000 in
set_option maxRecDepth 100000 in
theorem kX4_get_37 (l : Launch) (dC : Nat → ClassId) (dI : Nat → Nat → Nat) (g : Nat → Nat) (sz : Nat) (h0 : Nat) (h1 : Nat) (cc0 : ClassId) (x0 : Int32) (x1 : Int32) (x2 : Int32) (x3 : Int32) (x4 : Int32) (x5 : Int32) (ex0 : (-1 : Int) ≤ x0.toInt ∧ x0.toInt ≤ (21 : Int)) (ex1 : (-1 : Int) ≤ x1.toInt ∧ x1.toInt ≤ (21 : Int)) (ex2 : (-1 : Int) ≤ x2.toInt ∧ x2.toInt ≤ (21 : Int)) (ex3 : (-1 : Int) ≤ x3.toInt ∧ x3.toInt ≤ (21 : Int)) (ex4 : (22 : Int) ≤ x4.toInt ∧ x4.toInt ≤ (2147483647 : Int)) : Met l yX4_get wbX4_get ({ frames := 0, cells := 0, slots := 0, locals := 0 }) (va_Pc [.ref h0, .int 3] (fun U => U.heap.size = sz ∧ va_P (dC, dI) vwCl [(h0, .inr (11, [.ref h1, .int 6])), (h1, .inl (cc0, 6, .inl (upd (upd (upd (upd (upd (upd (fun _ => 0) 0 x0) 1 x1) 2 x2) 3 x3) 4 x4) 5 x5)))] U.heap ∧ va_K (dC, dI) vwCl [(cc0, .int)] U ∧ va_D (fun _ => True) [(h0, .inr (11, [.ref h1, .int 6])), (h1, .inl (cc0, 6, .inl (upd (upd (upd (upd (upd (upd (fun _ => 0) 0 x0) 1 x1) 2 x2) 3 x3) 4 x4) 5 x5)))] ∧ ns_F g (va_A [(h0, .inr (11, [.ref h1, .int 6])), (h1, .inl (cc0, 6, .inl (upd (upd (upd (upd (upd (upd (fun _ => 0) 0 x0) 1 x1) 2 x2) 3 x3) 4 x4) 5 x5)))] sz) U U.heap)) (va_Qi (fun (r : Int32) (_ : Unit) => r = x3) (fun _ t => va_P (dC, dI) vwCl [(h0, .inr (11, [.ref h1, .int 6])), (h1, .inl (cc0, 6, .inl (upd (upd (upd (upd (upd (upd (fun _ => 0) 0 x0) 1 x1) 2 x2) 3 x3) 4 x4) 5 x5)))] t.heap ∧ va_K (dC, dI) vwCl [(cc0, .int)] t ∧ va_D (va_A [(h0, .inr (11, [.ref h1, .int 6])), (h1, .inl (cc0, 6, .inl (upd (upd (upd (upd (upd (upd (fun _ => 0) 0 x0) 1 x1) 2 x2) 3 x3) 4 x4) 5 x5)))] sz) [(h0, .inr (11, [.ref h1, .int 6])), (h1, .inl (cc0, 6, .inl (upd (upd (upd (upd (upd (upd (fun _ => 0) 0 x0) 1 x1) 2 x2) 3 x3) 4 x4) 5 x5)))]) (va_A [(h0, .inr (11, [.ref h1, .int 6])), (h1, .inl (cc0, 6, .inl (upd (upd (upd (upd (upd (upd (fun _ => 0) 0 x0) 1 x1) 2 x2) 3 x3) 4 x4) 5 x5)))] sz)) 0 0 (va_A [(h0, .inr (11, [.ref h1, .int 6])), (h1, .inl (cc0, 6, .inl (upd (upd (upd (upd (upd (upd (fun _ => 0) 0 x0) 1 x1) 2 x2) 3 x3) 4 x4) 5 x5)))] sz) := by
  refine Met.ofW (cc := cX4_get) (maxL := 2) (ret := (some .int)) (by decide) rfl ?_
  intro p e s m args below meth c s₁ B hml hv
  obtain ⟨rfl, hsz, hP, hK, hD0, hF⟩ := hv
  have hx := B.exec
  have hb := B.bytes
  have hr := B.returns
  have hts := atoms_spec (ws := wbX4_get) B.pre
  have hta : ∀ w ∈ wsALL, w.before _ s = true := fun w h => hts w (List.mem_cons_of_mem _ h)
  have hown : s.vm.findClass RX4 = some m.cls := findClass_of_methodNamed B.named
  have hlocks := B.notSynchronized
  subst hsz
  have hD := hD0.self (sz := s.heap.size)
  generalize hAe : va_A [(h0, .inr (11, [.ref h1, .int 6])), (h1, .inl (cc0, 6, .inl (upd (upd (upd (upd (upd (upd (fun _ => 0) 0 x0) 1 x1) 2 x2) 3 x3) 4 x4) 5 x5)))] s.heap.size = A at hD hF ⊢
  have hA : ∀ q : Nat, s.heap.size ≤ q → A q := fun q h => by rw [← hAe]; exact Or.inr h
  have hS : va_S A s.heap s.heap [] := va_S.rf
  have hP : va_P (dC, dI) vwCl [(h0, .inr (11, [.ref h1, .int 6])), (h1, .inl (cc0, 6, .inl (upd (upd (upd (upd (upd (upd (fun _ => 0) 0 x0) 1 x1) 2 x2) 3 x3) 4 x4) 5 x5)))] s.heap := hP
  have hl := lv_entry ([.ref h0, .int 3]) (n := 2) (Nat.le_of_ble_eq_true rfl)
  rw [lg_entry_eq]
  generalize (lg_sl ([.ref h0, .int 3]) ++ List.replicate (2 - (lg_sl ([.ref h0, .int 3])).length) Slot.unset).toArray = ls at hl ⊢
  have hl : lv_has ls 2 [(0, .ref h0), (1, .int 3)] := hl
  refine lv_iload_n hx hb dX4_get_0 rfl (lv_at hl 1 rfl) ?_
  refine lv_if_lt (tgt := 30) hx hb dX4_get_1 (by decide) (fun c1 => absurd c1 (by decide)) (fun c1 => ?_)
  refine lv_iload_n hx hb dX4_get_4 rfl (lv_at hl 1 rfl) ?_
  refine lv_aload_n hx hb dX4_get_5 rfl (lv_at hl 0 rfl) ?_
  refine va_get (D := (dC, dI)) (ci := 11) (v := .int 6) (C := RX4) (T := TX4) (N := 2) hx hb hta naX4 hown hK hP 0 rfl rfl 1 (by decide) (hta _ wm14) (fun _ h9 => h9) rfl dX4_get_6 ?_
  refine lv_icmp_ge (tgt := 30) hx hb dX4_get_9 (by decide) (fun c2 => absurd c2 (by decide)) (fun c2 => ?_)
  refine lv_iload_n hx hb dX4_get_12 rfl (lv_at hl 1 rfl) ?_
  refine lv_aload_n hx hb dX4_get_13 rfl (lv_at hl 0 rfl) ?_
  refine va_get (D := (dC, dI)) (ci := 11) (v := .ref h1) (C := RX4) (T := TX4) (N := 2) hx hb hta naX4 hown hK hP 0 rfl rfl 0 (by decide) (hta _ wm16) (fun _ h9 => h9) rfl dX4_get_14 ?_
  refine va_alen (v := 6) hx hb hK hP 1 0 rfl rfl (show Int32.ofNat 6 = 6 by decide) dX4_get_17 ?_
  refine lv_icmp_ge (tgt := 30) hx hb dX4_get_18 (by decide) (fun c3 => absurd c3 (by decide)) (fun c3 => ?_)
  refine lv_aload_n hx hb dX4_get_21 rfl (lv_at hl 0 rfl) ?_
  refine va_get (D := (dC, dI)) (ci := 11) (v := .ref h1) (C := RX4) (T := TX4) (N := 2) hx hb hta naX4 hown hK hP 0 rfl rfl 0 (by decide) (hta _ wm16) (fun _ h9 => h9) rfl dX4_get_22 ?_
  refine lv_iload_n hx hb dX4_get_25 rfl (lv_at hl 1 rfl) ?_
  refine va_iald hx hb hK hP 1 0 rfl rfl (vp_in_nI (n := 3) (by decide) (by decide)) dX4_get_26 ?_
  refine lv_topi (fun y4 ey4 => ?_)
  obtain rfl : x3 = y4 := ey4.symm
  refine lv_goto (tgt := 31) hx hb dX4_get_27 (by decide) ?_
  have hP9 := hP.sub (ws' := [(h0, .inr (11, [.ref h1, .int 6])), (h1, .inl (cc0, 6, .inl (upd (upd (upd (upd (upd (upd (fun _ => 0) 0 x0) 1 x1) 2 x2) 3 x3) 4 x4) 5 x5)))]) [0, 1] rfl
  have hD9 := hD.sub (ws' := [(h0, .inr (11, [.ref h1, .int 6])), (h1, .inl (cc0, 6, .inl (upd (upd (upd (upd (upd (upd (fun _ => 0) 0 x0) 1 x1) 2 x2) 3 x3) 4 x4) 5 x5)))]) [0, 1] (by decide) rfl
  have hK9 := hK.sub (tys' := [(cc0, .int)]) [0] rfl
  refine W.widen (k := 0) (n := 0) (Nat.le_of_ble_eq_true rfl) (Nat.le_of_ble_eq_true rfl) ?_
  exact W.iret (v := x3) hx hb hr (fun t ht hW => ⟨⟨_, (), rfl, rfl, by rw [ht]; exact hP9, va_K.moved hW.alike hK9, hD9⟩, hS.F ht⟩) hS.2.2 dX4_get_31
set_option maxHeartbeats 4000000 in
set_option maxRecDepth 100000 in
theorem kX4_get_44 (l : Launch) (dC : Nat → ClassId) (dI : Nat → Nat → Nat) (g : Nat → Nat) (sz : Nat) (h0 : Nat) (h1 : Nat) (cc0 : ClassId) (x0 : Int32) (x1 : Int32) (x2 : Int32) (x3 : Int32) (x4 : Int32) (x5 : Int32) (ex0 : (-1 : Int) ≤ x0.toInt ∧ x0.toInt ≤ (21 : Int)) (ex1 : (-1 : Int) ≤ x1.toInt ∧ x1.toInt ≤ (21 : Int)) (ex2 : (22 : Int) ≤ x2.toInt ∧ x2.toInt ≤ (2147483647 : Int)) : Met l yX4_get wbX4_get ({ frames := 0, cells := 0, slots := 0, locals := 0 }) (va_Pc [.ref h0, .int 1] (fun U => U.heap.size = sz ∧ va_P (dC, dI) vwCl [(h0, .inr (11, [.ref h1, .int 6])), (h1, .inl (cc0, 6, .inl (upd (upd (upd (upd (upd (upd (fun _ => 0) 0 x0) 1 x1) 2 x2) 3 x3) 4 x4) 5 x5)))] U.heap ∧ va_K (dC, dI) vwCl [(cc0, .int)] U ∧ va_D (fun _ => True) [(h0, .inr (11, [.ref h1, .int 6])), (h1, .inl (cc0, 6, .inl (upd (upd (upd (upd (upd (upd (fun _ => 0) 0 x0) 1 x1) 2 x2) 3 x3) 4 x4) 5 x5)))] ∧ ns_F g (va_A [(h0, .inr (11, [.ref h1, .int 6])), (h1, .inl (cc0, 6, .inl (upd (upd (upd (upd (upd (upd (fun _ => 0) 0 x0) 1 x1) 2 x2) 3 x3) 4 x4) 5 x5)))] sz) U U.heap)) (va_Qi (fun (r : Int32) (_ : Unit) => r = x1) (fun _ t => va_P (dC, dI) vwCl [(h0, .inr (11, [.ref h1, .int 6])), (h1, .inl (cc0, 6, .inl (upd (upd (upd (upd (upd (upd (fun _ => 0) 0 x0) 1 x1) 2 x2) 3 x3) 4 x4) 5 x5)))] t.heap ∧ va_K (dC, dI) vwCl [(cc0, .int)] t ∧ va_D (va_A [(h0, .inr (11, [.ref h1, .int 6])), (h1, .inl (cc0, 6, .inl (upd (upd (upd (upd (upd (upd (fun _ => 0) 0 x0) 1 x1) 2 x2) 3 x3) 4 x4) 5 x5)))] sz) [(h0, .inr (11, [.ref h1, .int 6])), (h1, .inl (cc0, 6, .inl (upd (upd (upd (upd (upd (upd (fun _ => 0) 0 x0) 1 x1) 2 x2) 3 x3) 4 x4) 5 x5)))]) (va_A [(h0, .inr (11, [.ref h1, .int 6])), (h1, .inl (cc0, 6, .inl (upd (upd (upd (upd (upd (upd (fun _ => 0) 0 x0) 1 x1) 2 x2) 3 x3) 4 x4) 5 x5)))] sz)) 0 0 (va_A [(h0, .inr (11, [.ref h1, .int 6])), (h1, .inl (cc0, 6, .inl (upd (upd (upd (upd (upd (upd (fun _ => 0) 0 x0) 1 x1) 2 x2) 3 x3) 4 x4) 5 x5)))] sz) := by
  refine Met.ofW (cc := cX4_get) (maxL := 2) (ret := (some .int)) (by decide) rfl ?_
  intro p e s m args below meth c s₁ B hml hv
  obtain ⟨rfl, hsz, hP, hK, hD0, hF⟩ := hv
  have hx := B.exec
  have hb := B.bytes
  have hr := B.returns
  have hts := atoms_spec (ws := wbX4_get) B.pre
  have hta : ∀ w ∈ wsALL, w.before _ s = true := fun w h => hts w (List.mem_cons_of_mem _ h)
  have hown : s.vm.findClass RX4 = some m.cls := findClass_of_methodNamed B.named
  have hlocks := B.notSynchronized
  subst hsz
  have hD := hD0.self (sz := s.heap.size)
  generalize hAe : va_A [(h0, .inr (11, [.ref h1, .int 6])), (h1, .inl (cc0, 6, .inl (upd (upd (upd (upd (upd (upd (fun _ => 0) 0 x0) 1 x1) 2 x2) 3 x3) 4 x4) 5 x5)))] s.heap.size = A at hD hF ⊢
  have hA : ∀ q : Nat, s.heap.size ≤ q → A q := fun q h => by rw [← hAe]; exact Or.inr h
  have hS : va_S A s.heap s.heap [] := va_S.rf
  have hP : va_P (dC, dI) vwCl [(h0, .inr (11, [.ref h1, .int 6])), (h1, .inl (cc0, 6, .inl (upd (upd (upd (upd (upd (upd (fun _ => 0) 0 x0) 1 x1) 2 x2) 3 x3) 4 x4) 5 x5)))] s.heap := hP
  have hl := lv_entry ([.ref h0, .int 1]) (n := 2) (Nat.le_of_ble_eq_true rfl)
  rw [lg_entry_eq]
  generalize (lg_sl ([.ref h0, .int 1]) ++ List.replicate (2 - (lg_sl ([.ref h0, .int 1])).length) Slot.unset).toArray = ls at hl ⊢
  have hl : lv_has ls 2 [(0, .ref h0), (1, .int 1)] := hl
  refine lv_iload_n hx hb dX4_get_0 rfl (lv_at hl 1 rfl) ?_
  refine lv_if_lt (tgt := 30) hx hb dX4_get_1 (by decide) (fun c1 => absurd c1 (by decide)) (fun c1 => ?_)
  refine lv_iload_n hx hb dX4_get_4 rfl (lv_at hl 1 rfl) ?_
  refine lv_aload_n hx hb dX4_get_5 rfl (lv_at hl 0 rfl) ?_
  refine va_get (D := (dC, dI)) (ci := 11) (v := .int 6) (C := RX4) (T := TX4) (N := 2) hx hb hta naX4 hown hK hP 0 rfl rfl 1 (by decide) (hta _ wm14) (fun _ h9 => h9) rfl dX4_get_6 ?_
  refine lv_icmp_ge (tgt := 30) hx hb dX4_get_9 (by decide) (fun c2 => absurd c2 (by decide)) (fun c2 => ?_)
  refine lv_iload_n hx hb dX4_get_12 rfl (lv_at hl 1 rfl) ?_
  refine lv_aload_n hx hb dX4_get_13 rfl (lv_at hl 0 rfl) ?_
  refine va_get (D := (dC, dI)) (ci := 11) (v := .ref h1) (C := RX4) (T := TX4) (N := 2) hx hb hta naX4 hown hK hP 0 rfl rfl 0 (by decide) (hta _ wm16) (fun _ h9 => h9) rfl dX4_get_14 ?_
  refine va_alen (v := 6) hx hb hK hP 1 0 rfl rfl (show Int32.ofNat 6 = 6 by decide) dX4_get_17 ?_
  refine lv_icmp_ge (tgt := 30) hx hb dX4_get_18 (by decide) (fun c3 => absurd c3 (by decide)) (fun c3 => ?_)
  refine lv_aload_n hx hb dX4_get_21 rfl (lv_at hl 0 rfl) ?_
  refine va_get (D := (dC, dI)) (ci := 11) (v := .ref h1) (C := RX4) (T := TX4) (N := 2) hx hb hta naX4 hown hK hP 0 rfl rfl 0 (by decide) (hta _ wm16) (fun _ h9 => h9) rfl dX4_get_22 ?_
  refine lv_iload_n hx hb dX4_get_25 rfl (lv_at hl 1 rfl) ?_
  refine va_iald hx hb hK hP 1 0 rfl rfl (vp_in_nI (n := 1) (by decide) (by decide)) dX4_get_26 ?_
  refine lv_topi (fun y4 ey4 => ?_)
  obtain rfl : x1 = y4 := ey4.symm
  refine lv_goto (tgt := 31) hx hb dX4_get_27 (by decide) ?_
  have hP9 := hP.sub (ws' := [(h0, .inr (11, [.ref h1, .int 6])), (h1, .inl (cc0, 6, .inl (upd (upd (upd (upd (upd (upd (fun _ => 0) 0 x0) 1 x1) 2 x2) 3 x3) 4 x4) 5 x5)))]) [0, 1] rfl
  have hD9 := hD.sub (ws' := [(h0, .inr (11, [.ref h1, .int 6])), (h1, .inl (cc0, 6, .inl (upd (upd (upd (upd (upd (upd (fun _ => 0) 0 x0) 1 x1) 2 x2) 3 x3) 4 x4) 5 x5)))]) [0, 1] (by decide) rfl
  have hK9 := hK.sub (tys' := [(cc0, .int)]) [0] rfl
  refine W.widen (k := 0) (n := 0) (Nat.le_of_ble_eq_true rfl) (Nat.le_of_ble_eq_true rfl) ?_
  exact W.iret (v := x1) hx hb hr (fun t ht hW => ⟨⟨_, (), rfl, rfl, by rw [ht]; exact hP9, va_K.moved hW.alike hK9, hD9⟩, hS.F ht⟩) hS.2.2 dX4_get_31
set_option maxHeartbeats 4000000 in
set_option maxRecDepth 100000 in
theorem kX9_ribbon_2 (l : Launch) (dC : Nat → ClassId) (dI : Nat → Nat → Nat) (g : Nat → Nat) (sz : Nat) (h0 : Nat) (x0 : Int32) (v0 : Value) (v1 : Value) (v2 : Value) (v3 : Value) (v4 : Value) (v5 : Value) (v6 : Value) (v7 : Value) (v8 : Value) (v9 : Value) (v10 : Value) (v11 : Value) (v12 : Value) (v13 : Value) (v14 : Value) (ex0 : (1 : Int) ≤ x0.toInt ∧ x0.toInt ≤ (60 : Int)) : Met l yX9_ribbon wbX9_ribbon ({ frames := 0, cells := 0, slots := 0, locals := 0 }) (va_Pc [.ref h0, .int x0] (fun U => U.heap.size = sz ∧ va_P (dC, dI) vwCl [(h0, .inr (16, [v0, v1, v2, v3, v4, v5, v6, v7, v8, v9, v10, v11, .int 60, v12, v13, v14]))] U.heap ∧ va_K (dC, dI) vwCl [] U ∧ va_D (fun _ => True) [(h0, .inr (16, [v0, v1, v2, v3, v4, v5, v6, v7, v8, v9, v10, v11, .int 60, v12, v13, v14]))] ∧ ns_F g (va_A [(h0, .inr (16, [v0, v1, v2, v3, v4, v5, v6, v7, v8, v9, v10, v11, .int 60, v12, v13, v14]))] sz) U U.heap)) (va_Qi (fun (r : Int32) (_ : Unit) => r = 60) (fun _ t => va_P (dC, dI) vwCl [(h0, .inr (16, [v0, v1, v2, v3, v4, v5, v6, v7, v8, v9, v10, v11, .int x0, v12, v13, v14]))] t.heap ∧ va_K (dC, dI) vwCl [] t ∧ va_D (va_A [(h0, .inr (16, [v0, v1, v2, v3, v4, v5, v6, v7, v8, v9, v10, v11, .int 60, v12, v13, v14]))] sz) [(h0, .inr (16, [v0, v1, v2, v3, v4, v5, v6, v7, v8, v9, v10, v11, .int x0, v12, v13, v14]))]) (va_A [(h0, .inr (16, [v0, v1, v2, v3, v4, v5, v6, v7, v8, v9, v10, v11, .int 60, v12, v13, v14]))] sz)) 0 0 (va_A [(h0, .inr (16, [v0, v1, v2, v3, v4, v5, v6, v7, v8, v9, v10, v11, .int 60, v12, v13, v14]))] sz) := by
  refine Met.ofW (cc := cX9_ribbon) (maxL := 3) (ret := (some .int)) (by decide) rfl ?_
  intro p e s m args below meth c s₁ B hml hv
  obtain ⟨rfl, hsz, hP, hK, hD0, hF⟩ := hv
  have hx := B.exec
  have hb := B.bytes
  have hr := B.returns
  have hts := atoms_spec (ws := wbX9_ribbon) B.pre
  have hta : ∀ w ∈ wsALL, w.before _ s = true := fun w h => hts w (List.mem_cons_of_mem _ h)
  have hown : s.vm.findClass RX9 = some m.cls := findClass_of_methodNamed B.named
  have hlocks := B.notSynchronized
  subst hsz
  have hD := hD0.self (sz := s.heap.size)
  generalize hAe : va_A [(h0, .inr (16, [v0, v1, v2, v3, v4, v5, v6, v7, v8, v9, v10, v11, .int 60, v12, v13, v14]))] s.heap.size = A at hD hF ⊢
  have hA : ∀ q : Nat, s.heap.size ≤ q → A q := fun q h => by rw [← hAe]; exact Or.inr h
  have hS : va_S A s.heap s.heap [] := va_S.rf
  have hP : va_P (dC, dI) vwCl [(h0, .inr (16, [v0, v1, v2, v3, v4, v5, v6, v7, v8, v9, v10, v11, .int 60, v12, v13, v14]))] s.heap := hP
  have hl := lv_entry ([.ref h0, .int x0]) (n := 3) (Nat.le_of_ble_eq_true rfl)
  rw [lg_entry_eq]
  generalize (lg_sl ([.ref h0, .int x0]) ++ List.replicate (3 - (lg_sl ([.ref h0, .int x0])).length) Slot.unset).toArray = ls at hl ⊢
  have hl : lv_has ls 3 [(0, .ref h0), (1, .int x0)] := hl
  refine lv_iload_n hx hb dX9_ribbon_0 rfl (lv_at hl 1 rfl) ?_
  refine lv_iconst (v := 1) hx hb dX9_ribbon_1 (by decide) ?_
  refine lv_icmp_lt (tgt := 11) hx hb dX9_ribbon_2 (by decide) (fun c1 => absurd c1 (fun z => absurd (show x0.toInt < (1 : Int) from Int32.lt_iff_toInt_lt.mp z) (by omega))) (fun c1 => ?_)
  refine lv_iload_n hx hb dX9_ribbon_5 rfl (lv_at hl 1 rfl) ?_
  refine lv_bipush (v := 60) hx hb dX9_ribbon_6 (by decide) ?_
  refine lv_icmp_le (tgt := 21) hx hb dX9_ribbon_8 (by decide) (fun c2 => ?_) (fun c2 => absurd (show x0 ≤ (60 : Int32) from Int32.le_iff_toInt_le.mpr (show x0.toInt ≤ (60 : Int) by omega)) c2)
  refine lv_aload_n hx hb dX9_ribbon_21 rfl (lv_at hl 0 rfl) ?_
  refine va_get (D := (dC, dI)) (ci := 16) (v := .int 60) (C := RX9) (T := TX9) (N := 16) hx hb hta naX9 hown hK hP 0 rfl rfl 12 (by decide) (hta _ wm169) (fun _ h9 => h9) rfl dX9_ribbon_22 ?_
  refine lv_istore_n (lv' := [(2, .int 60), (0, .ref h0), (1, .int x0)]) hx hb dX9_ribbon_25 rfl hl (by decide) rfl (fun ls hl => ?_)
  refine lv_aload_n hx hb dX9_ribbon_26 rfl (lv_at hl 1 rfl) ?_
  refine lv_iload_n hx hb dX9_ribbon_27 rfl (lv_at hl 2 rfl) ?_
  refine va_put (D := (dC, dI)) (ci := 16) (v := .int x0) (ty := .int) (C := RX9) (T := TX9) (N := 16) hx hb hta naX9 tyX9 tyX9_ok nmX9 hown hK hP hD hS 0 rfl rfl 12 (by decide) (hta _ wm169) (fun _ h9 => h9) rfl (by decide +kernel) rfl rfl (Nat.le_of_ble_eq_true rfl) dX9_ribbon_28 (fun H locs hP hD hS => ?_)
  have hP : va_P (dC, dI) vwCl [(h0, .inr (16, [v0, v1, v2, v3, v4, v5, v6, v7, v8, v9, v10, v11, .int x0, v12, v13, v14]))] H := hP
  have hD : va_D A [(h0, .inr (16, [v0, v1, v2, v3, v4, v5, v6, v7, v8, v9, v10, v11, .int x0, v12, v13, v14]))] := hD
  refine lv_iload_n hx hb dX9_ribbon_31 rfl (lv_at hl 0 rfl) ?_
  have hP9 := hP.sub (ws' := [(h0, .inr (16, [v0, v1, v2, v3, v4, v5, v6, v7, v8, v9, v10, v11, .int x0, v12, v13, v14]))]) [0] rfl
  have hD9 := hD.sub (ws' := [(h0, .inr (16, [v0, v1, v2, v3, v4, v5, v6, v7, v8, v9, v10, v11, .int x0, v12, v13, v14]))]) [0] (by decide) rfl
  have hK9 := hK.sub (tys' := []) [] rfl
  refine W.widen (k := 0) (n := 0) (Nat.le_of_ble_eq_true rfl) (Nat.le_of_ble_eq_true rfl) ?_
  exact W.iret (v := 60) hx hb hr (fun t ht hW => ⟨⟨_, (), rfl, rfl, by rw [ht]; exact hP9, va_K.moved hW.alike hK9, hD9⟩, hS.F ht⟩) hS.2.2 dX9_ribbon_32
set_option maxHeartbeats 4000000 in
set_option maxRecDepth 100000 in
theorem kX4_cut_3 (l : Launch) (dC : Nat → ClassId) (dI : Nat → Nat → Nat) (g : Nat → Nat) (sz : Nat) (h0 : Nat) (x0 : Int32) (v0 : Value) (x1 : Int32) (ex0 : (0 : Int) ≤ x0.toInt ∧ x0.toInt ≤ (2 : Int)) (ex1 : (0 : Int) ≤ x1.toInt ∧ x1.toInt ≤ (1 : Int)) : Met l yX4_cut wbX4_cut ({ frames := 0, cells := 0, slots := 0, locals := 0 }) (va_Pc [.ref h0, .int x0] (fun U => U.heap.size = sz ∧ va_P (dC, dI) vwCl [(h0, .inr (11, [v0, .int x1]))] U.heap ∧ va_K (dC, dI) vwCl [] U ∧ va_D (fun _ => True) [(h0, .inr (11, [v0, .int x1]))] ∧ ns_F g (va_A [(h0, .inr (11, [v0, .int x1]))] sz) U U.heap)) (va_Qv (fun _ : Unit => True) (fun _ t => va_P (dC, dI) vwCl [(h0, .inr (11, [v0, .int (ns_cut x1 x0)]))] t.heap ∧ va_K (dC, dI) vwCl [] t ∧ va_D (va_A [(h0, .inr (11, [v0, .int x1]))] sz) [(h0, .inr (11, [v0, .int (ns_cut x1 x0)]))]) (va_A [(h0, .inr (11, [v0, .int x1]))] sz)) 0 0 (va_A [(h0, .inr (11, [v0, .int x1]))] sz) := by
  refine Met.ofW (cc := cX4_cut) (maxL := 2) (ret := none) (by decide) rfl ?_
  intro p e s m args below meth c s₁ B hml hv
  obtain ⟨rfl, hsz, hP, hK, hD0, hF⟩ := hv
  have hx := B.exec
  have hb := B.bytes
  have hr := B.returns
  have hts := atoms_spec (ws := wbX4_cut) B.pre
  have hta : ∀ w ∈ wsALL, w.before _ s = true := fun w h => hts w (List.mem_cons_of_mem _ h)
  have hown : s.vm.findClass RX4 = some m.cls := findClass_of_methodNamed B.named
  have hlocks := B.notSynchronized
  subst hsz
  have hD := hD0.self (sz := s.heap.size)
  generalize hAe : va_A [(h0, .inr (11, [v0, .int x1]))] s.heap.size = A at hD hF ⊢
  have hA : ∀ q : Nat, s.heap.size ≤ q → A q := fun q h => by rw [← hAe]; exact Or.inr h
  have hS : va_S A s.heap s.heap [] := va_S.rf
  have hP : va_P (dC, dI) vwCl [(h0, .inr (11, [v0, .int x1]))] s.heap := hP
  have hl := lv_entry ([.ref h0, .int x0]) (n := 2) (Nat.le_of_ble_eq_true rfl)
  rw [lg_entry_eq]
  generalize (lg_sl ([.ref h0, .int x0]) ++ List.replicate (2 - (lg_sl ([.ref h0, .int x0])).length) Slot.unset).toArray = ls at hl ⊢
  have hl : lv_has ls 2 [(0, .ref h0), (1, .int x0)] := hl
  refine lv_iload_n hx hb dX4_cut_0 rfl (lv_at hl 1 rfl) ?_
  refine lv_if_lt (tgt := 17) hx hb dX4_cut_1 (by decide) (fun c1 => absurd c1 (fun z => absurd (show x0.toInt < (0 : Int) from Int32.lt_iff_toInt_lt.mp z) (by omega))) (fun c1 => ?_)
  refine lv_iload_n hx hb dX4_cut_4 rfl (lv_at hl 1 rfl) ?_
  refine lv_aload_n hx hb dX4_cut_5 rfl (lv_at hl 0 rfl) ?_
  refine va_get (D := (dC, dI)) (ci := 11) (v := .int x1) (C := RX4) (T := TX4) (N := 2) hx hb hta naX4 hown hK hP 0 rfl rfl 1 (by decide) (hta _ wm14) (fun _ h9 => h9) rfl dX4_cut_6 ?_
  refine lv_icmp_ge (tgt := 17) hx hb dX4_cut_9 (by decide) (fun c2 => ?_) (fun c2 => ?_)
  · have ec2 : x1.toInt ≤ x0.toInt := Int32.le_iff_toInt_le.mp c2
    have w3 : x1 = (ns_cut x1 x0) := (by unfold ns_cut; (repeat' split) <;> first | rfl | (exfalso; omega))
    have hP : va_P (dC, dI) vwCl [(h0, .inr (11, [v0, .int (ns_cut x1 x0)]))] s.heap := by rw [← w3]; exact hP
    have hD : va_D A [(h0, .inr (11, [v0, .int (ns_cut x1 x0)]))] := by rw [← w3]; exact hD
    have hP9 := hP.sub (ws' := [(h0, .inr (11, [v0, .int (ns_cut x1 x0)]))]) [0] rfl
    have hD9 := hD.sub (ws' := [(h0, .inr (11, [v0, .int (ns_cut x1 x0)]))]) [0] (by decide) rfl
    have hK9 := hK.sub (tys' := []) [] rfl
    refine W.widen (k := 0) (n := 0) (Nat.le_of_ble_eq_true rfl) (Nat.le_of_ble_eq_true rfl) ?_
    exact W.vret hx hb hr (fun t ht hW => ⟨⟨(), rfl, trivial, by rw [ht]; exact hP9, va_K.moved hW.alike hK9, hD9⟩, hS.F ht⟩) hS.2.2 dX4_cut_17
  · have ec2 : ¬ x1.toInt ≤ x0.toInt := fun z => c2 (Int32.le_iff_toInt_le.mpr z)
    refine lv_aload_n hx hb dX4_cut_12 rfl (lv_at hl 0 rfl) ?_
    refine lv_iload_n hx hb dX4_cut_13 rfl (lv_at hl 1 rfl) ?_
    refine va_put (D := (dC, dI)) (ci := 11) (v := .int x0) (ty := .int) (C := RX4) (T := TX4) (N := 2) hx hb hta naX4 tyX4 tyX4_ok nmX4 hown hK hP hD hS 0 rfl rfl 1 (by decide) (hta _ wm14) (fun _ h9 => h9) rfl (by decide +kernel) rfl rfl (Nat.le_of_ble_eq_true rfl) dX4_cut_14 (fun H locs hP hD hS => ?_)
    have hP : va_P (dC, dI) vwCl [(h0, .inr (11, [v0, .int x0]))] H := hP
    have hD : va_D A [(h0, .inr (11, [v0, .int x0]))] := hD
    have w4 : x0 = (ns_cut x1 x0) := (by unfold ns_cut; (repeat' split) <;> first | rfl | (exfalso; omega))
    have hP : va_P (dC, dI) vwCl [(h0, .inr (11, [v0, .int (ns_cut x1 x0)]))] H := by rw [← w4]; exact hP
    have hD : va_D A [(h0, .inr (11, [v0, .int (ns_cut x1 x0)]))] := by rw [← w4]; exact hD
    have hP9 := hP.sub (ws' := [(h0, .inr (11, [v0, .int (ns_cut x1 x0)]))]) [0] rfl
    have hD9 := hD.sub (ws' := [(h0, .inr (11, [v0, .int (ns_cut x1 x0)]))]) [0] (by decide) rfl
    have hK9 := hK.sub (tys' := []) [] rfl
    refine W.widen (k := 0) (n := 0) (Nat.le_of_ble_eq_true rfl) (Nat.le_of_ble_eq_true rfl) ?_
    exact W.vret hx hb hr (fun t ht hW => ⟨⟨(), rfl, trivial, by rw [ht]; exact hP9, va_K.moved hW.alike hK9, hD9⟩, hS.F ht⟩) hS.2.2 dX4_cut_17
set_option maxHeartbeats 4000000 in
set_option maxRecDepth 100000 in
theorem kJ5_ensureCapacityInternal_d00df_5 (l : Launch) (dC : Nat → ClassId) (dI : Nat → Nat → Nat) (g : Nat → Nat) (sz : Nat) (h0 : Nat) (h1 : Nat) (v0 : Value) (v1 : Value) (cc0 : ClassId) (f0 : Nat → Int32) (hf0 : sb_Fit f0) : Met l yJ5_ensureCapacityInternal_d00df wbJ5_ensureCapacityInternal_d00df ({ frames := 0, cells := 0, slots := 0, locals := 0 }) (va_Pc [.ref h0, .int 5] (fun U => U.heap.size = sz ∧ va_P (dC, dI) vwCl [(h0, .inr (1, [.ref h1, .int 0, v0, v1])), (h1, .inl (cc0, 16, .inl f0))] U.heap ∧ va_K (dC, dI) vwCl [(cc0, .byte)] U ∧ va_D (fun _ => True) [(h0, .inr (1, [.ref h1, .int 0, v0, v1])), (h1, .inl (cc0, 16, .inl f0))] ∧ ns_F g (va_A [(h0, .inr (1, [.ref h1, .int 0, v0, v1])), (h1, .inl (cc0, 16, .inl f0))] sz) U U.heap)) (va_Qv (fun _ : Unit => True) (fun _ t => va_P (dC, dI) vwCl [(h0, .inr (1, [.ref h1, .int 0, v0, v1])), (h1, .inl (cc0, 16, .inl f0))] t.heap ∧ va_K (dC, dI) vwCl [(cc0, .byte)] t ∧ va_D (va_A [(h0, .inr (1, [.ref h1, .int 0, v0, v1])), (h1, .inl (cc0, 16, .inl f0))] sz) [(h0, .inr (1, [.ref h1, .int 0, v0, v1])), (h1, .inl (cc0, 16, .inl f0))]) (va_A [(h0, .inr (1, [.ref h1, .int 0, v0, v1])), (h1, .inl (cc0, 16, .inl f0))] sz)) 0 0 (va_A [(h0, .inr (1, [.ref h1, .int 0, v0, v1])), (h1, .inl (cc0, 16, .inl f0))] sz) := by
  refine Met.ofW (cc := cJ5_ensureCapacityInternal_d00df) (maxL := 3) (ret := none) (by decide) rfl ?_
  intro p e s m args below meth c s₁ B hml hv
  obtain ⟨rfl, hsz, hP, hK, hD0, hF⟩ := hv
  have hx := B.exec
  have hb := B.bytes
  have hr := B.returns
  have hts := atoms_spec (ws := wbJ5_ensureCapacityInternal_d00df) B.pre
  have hta : ∀ w ∈ wsALL, w.before _ s = true := fun w h => hts w (List.mem_cons_of_mem _ h)
  have hown : s.vm.findClass RJ5 = some m.cls := findClass_of_methodNamed B.named
  have hlocks := B.notSynchronized
  subst hsz
  have hD := hD0.self (sz := s.heap.size)
  generalize hAe : va_A [(h0, .inr (1, [.ref h1, .int 0, v0, v1])), (h1, .inl (cc0, 16, .inl f0))] s.heap.size = A at hD hF ⊢
  have hA : ∀ q : Nat, s.heap.size ≤ q → A q := fun q h => by rw [← hAe]; exact Or.inr h
  have hS : va_S A s.heap s.heap [] := va_S.rf
  have hP : va_P (dC, dI) vwCl [(h0, .inr (1, [.ref h1, .int 0, v0, v1])), (h1, .inl (cc0, 16, .inl f0))] s.heap := hP
  have hl := lv_entry ([.ref h0, .int 5]) (n := 3) (Nat.le_of_ble_eq_true rfl)
  rw [lg_entry_eq]
  generalize (lg_sl ([.ref h0, .int 5]) ++ List.replicate (3 - (lg_sl ([.ref h0, .int 5])).length) Slot.unset).toArray = ls at hl ⊢
  have hl : lv_has ls 3 [(0, .ref h0), (1, .int 5)] := hl
  refine lv_aload_n hx hb dJ5_ensureCapacityInternal_d00df_0 rfl (lv_at hl 0 rfl) ?_
  refine va_get (D := (dC, dI)) (ci := 1) (v := .ref h1) (C := RJ4) (T := TJ4) (N := 4) hx hb hta naJ4 hown hK hP 0 rfl rfl 0 (by decide) (hta _ wm141) (fun _ h9 => h9) rfl dJ5_ensureCapacityInternal_d00df_1 ?_
  refine va_alen (v := 16) hx hb hK hP 1 0 rfl rfl (show Int32.ofNat 16 = 16 by decide) dJ5_ensureCapacityInternal_d00df_4 ?_
  refine lv_aload_n hx hb dJ5_ensureCapacityInternal_d00df_5 rfl (lv_at hl 0 rfl) ?_
  refine va_get (D := (dC, dI)) (ci := 1) (v := .int 0) (C := RJ4) (T := TJ4) (N := 4) hx hb hta naJ4 hown hK hP 0 rfl rfl 1 (by decide) (hta _ wm142) (fun _ h9 => h9) rfl dJ5_ensureCapacityInternal_d00df_6 ?_
  refine lv_ishr hx hb dJ5_ensureCapacityInternal_d00df_9 ?_
  refine lv_topi (fun y1 ey1 => ?_)
  obtain rfl : y1 = 16 := ey1.trans (by decide)
  refine lv_istore_n (lv' := [(2, .int 16), (0, .ref h0), (1, .int 5)]) hx hb dJ5_ensureCapacityInternal_d00df_10 rfl hl (by decide) rfl (fun ls hl => ?_)
  refine lv_iload_n hx hb dJ5_ensureCapacityInternal_d00df_11 rfl (lv_at hl 2 rfl) ?_
  refine lv_iload_n hx hb dJ5_ensureCapacityInternal_d00df_12 rfl (lv_at hl 0 rfl) ?_
  refine lv_isub hx hb dJ5_ensureCapacityInternal_d00df_13 ?_
  refine lv_topi (fun y2 ey2 => ?_)
  obtain rfl : y2 = (-11) := ey2.trans (by decide)
  refine lv_if_le (tgt := 38) hx hb dJ5_ensureCapacityInternal_d00df_14 (by decide) (fun c3 => ?_) (fun c3 => absurd (by decide) c3)
  have hP9 := hP.sub (ws' := [(h0, .inr (1, [.ref h1, .int 0, v0, v1])), (h1, .inl (cc0, 16, .inl f0))]) [0, 1] rfl
  have hD9 := hD.sub (ws' := [(h0, .inr (1, [.ref h1, .int 0, v0, v1])), (h1, .inl (cc0, 16, .inl f0))]) [0, 1] (by decide) rfl
  have hK9 := hK.sub (tys' := [(cc0, .byte)]) [0] rfl
  refine W.widen (k := 0) (n := 0) (Nat.le_of_ble_eq_true rfl) (Nat.le_of_ble_eq_true rfl) ?_
  exact W.vret hx hb hr (fun t ht hW => ⟨⟨(), rfl, trivial, by rw [ht]; exact hP9, va_K.moved hW.alike hK9, hD9⟩, hS.F ht⟩) hS.2.2 dJ5_ensureCapacityInternal_d00df_38
set_option maxHeartbeats 4000000 in
set_option maxRecDepth 100000 in
theorem kX9_word_12 (l : Launch) (dC : Nat → ClassId) (dI : Nat → Nat → Nat) (g : Nat → Nat) (sz : Nat) (h0 : Nat) (x0 : Int32) (x1 : Int32) (ex0 : (0 : Int) ≤ x0.toInt ∧ x0.toInt ≤ (25 : Int)) (ex1 : (-2147483648 : Int) ≤ x1.toInt ∧ x1.toInt ≤ (0 : Int)) (hlt : l.stackTraces = false) : vx_Met l yX9_word wbX9_word ({ frames := 6, cells := 1, slots := 6, locals := 82 }) (va_Pc [.ref h0, .int x0, .int x1] (fun U => U.heap.size = sz ∧ va_P (dC, dI) vwCl [] U.heap ∧ va_K (dC, dI) vwCl [] U ∧ va_D (fun _ => True) [] ∧ ns_F g (va_A [] sz) U U.heap)) (va_Qv (fun _ : Unit => False) (fun _ _ => True) (va_A [] sz)) (vx_X (fun _ : Unit => True) (fun E _ _ => E = "java/lang/IllegalArgumentException") (va_A [] sz)) 1 6 (va_A [] sz) := by
  refine vx_ofW (cc := cX9_word) (maxL := 4) (ret := (some .int)) (by decide) rfl ?_
  intro p e s m args below meth c s₁ B hml hnox hv
  obtain ⟨rfl, hsz, hP, hK, hD0, hF⟩ := hv
  have hx := B.exec
  have hb := B.bytes
  have hr := B.returns
  have hts := atoms_spec (ws := wbX9_word) B.pre
  have hta : ∀ w ∈ wsALL, w.before _ s = true := fun w h => hts w (List.mem_cons_of_mem _ h)
  have hown : s.vm.findClass RX9 = some m.cls := findClass_of_methodNamed B.named
  have hlocks := B.notSynchronized
  subst hsz
  have hD := hD0.self (sz := s.heap.size)
  generalize hAe : va_A [] s.heap.size = A at hD hF ⊢
  have hA : ∀ q : Nat, s.heap.size ≤ q → A q := fun q h => by rw [← hAe]; exact Or.inr h
  have hS : va_S A s.heap s.heap [] := va_S.rf
  have hP : va_P (dC, dI) vwCl [] s.heap := hP
  have hl := lv_entry ([.ref h0, .int x0, .int x1]) (n := 4) (Nat.le_of_ble_eq_true rfl)
  rw [lg_entry_eq]
  generalize (lg_sl ([.ref h0, .int x0, .int x1]) ++ List.replicate (4 - (lg_sl ([.ref h0, .int x0, .int x1])).length) Slot.unset).toArray = ls at hl ⊢
  have hl : lv_has ls 4 [(0, .ref h0), (1, .int x0), (2, .int x1)] := hl
  refine lv_iload_n hx hb dX9_word_0 rfl (lv_at hl 1 rfl) ?_
  refine lv_if_lt (tgt := 10) hx hb dX9_word_1 (by decide) (fun c1 => absurd c1 (fun z => absurd (show x0.toInt < (0 : Int) from Int32.lt_iff_toInt_lt.mp z) (by omega))) (fun c1 => ?_)
  refine lv_iload_n hx hb dX9_word_4 rfl (lv_at hl 1 rfl) ?_
  refine lv_bipush (v := 25) hx hb dX9_word_5 (by decide) ?_
  refine lv_icmp_le (tgt := 20) hx hb dX9_word_7 (by decide) (fun c2 => ?_) (fun c2 => absurd (show x0 ≤ (25 : Int32) from Int32.le_iff_toInt_le.mpr (show x0.toInt ≤ (25 : Int) by omega)) c2)
  refine lv_iload_n hx hb dX9_word_20 rfl (lv_at hl 2 rfl) ?_
  refine lv_iconst (v := 1) hx hb dX9_word_21 (by decide) ?_
  refine lv_icmp_lt (tgt := 31) hx hb dX9_word_22 (by decide) (fun c3 => ?_) (fun c3 => absurd (show x1 < (1 : Int32) from Int32.lt_iff_toInt_lt.mpr (show x1.toInt < (1 : Int) by omega)) c3)
  exact vx_throwS hx hb hlt (text := "length is 1 to 9") (sa := (g 12)) (names := ["java/lang/RuntimeException", "java/lang/Exception"]) hown (by decide) (by decide) (hta _ wm225) (hta _ wm226) (ns_f22 hF) (vx_hat (B := [.declares ⟨"java/lang/RuntimeException", "<init>", "(Ljava/lang/String;)V"⟩, .declares ⟨"java/lang/Exception", "<init>", "(Ljava/lang/String;)V"⟩, .declares ⟨"java/lang/Throwable", "<init>", "(Ljava/lang/String;)V"⟩, .castable "java/lang/IllegalArgumentException" "java/lang/IllegalArgumentException"]) (fun w9 h9 => hta w9 (vm0 w9 h9)) (by decide +kernel) (vx_c (va_Nw.use rfl (ns_f12 hF)) (vx_c (va_Nw.use rfl (ns_f13 hF)) (vx_c (va_Nw.use rfl (ns_f14 hF)) (vx_c (va_Nw.use rfl (ns_f11 hF)) vx_n))))) (by decide +kernel) (ns_f18 hF) (ns_f19 hF) hS (by rw [hml]; exact hl.1) dX9_word_31 dX9_word_34 dX9_word_35 dX9_word_37 dX9_word_40 (fun x hx => (hnox x hx).elim) (Nat.le_of_ble_eq_true rfl) (Nat.le_of_ble_eq_true rfl) (Nat.le_of_ble_eq_true rfl) (Nat.le_of_ble_eq_true rfl) hlocks (fun t9 hal hsz9 hk9 => ⟨(), trivial, rfl, Nat.le_trans hS.1 hsz9, fun q hq1 hq2 => (hk9 q (Nat.lt_of_lt_of_le hq1 hS.1)).trans (hS.2.1 q hq1 hq2)⟩) hS.2.2 (Nat.le_of_ble_eq_true rfl) (Nat.le_of_ble_eq_true rfl)
set_option maxHeartbeats 4000000 in
set_option maxRecDepth 100000 in
theorem kJ1_equals_b5fdf (l : Launch) (dC : Nat → ClassId) (dI : Nat → Nat → Nat) (g : Nat → Nat) (sz : Nat) (h0 : Nat) (cc0 : ClassId) (f0 : Nat → Int32) (hf0 : sb_Fit f0) : Met l yJ1_equals_b5fdf wbJ1_equals_b5fdf ({ frames := 0, cells := 0, slots := 0, locals := 0 }) (va_Pc [.ref h0, .ref (g 35)] (fun U => U.heap.size = sz ∧ va_P (dC, dI) vwCl [(h0, .inl (cc0, 0, .inl f0))] U.heap ∧ va_K (dC, dI) vwCl [(cc0, .byte)] U ∧ va_D (fun _ => True) [(h0, .inl (cc0, 0, .inl f0))] ∧ ns_F g (va_A [(h0, .inl (cc0, 0, .inl f0))] sz) U U.heap)) (va_Qi (fun (r : Int32) (_ : Unit) => r = 1) (fun _ t => va_P (dC, dI) vwCl [(h0, .inl (cc0, 0, .inl f0))] t.heap ∧ va_K (dC, dI) vwCl [(cc0, .byte)] t ∧ va_D (va_A [(h0, .inl (cc0, 0, .inl f0))] sz) [(h0, .inl (cc0, 0, .inl f0))]) (va_A [(h0, .inl (cc0, 0, .inl f0))] sz)) 0 0 (va_A [(h0, .inl (cc0, 0, .inl f0))] sz) := by
  refine Met.ofW (cc := cJ1_equals_b5fdf) (maxL := 3) (ret := (some .boolean)) (by decide) rfl ?_
  intro p e s m args below meth c s₁ B hml hv
  obtain ⟨rfl, hsz, hP, hK, hD0, hF⟩ := hv
  have hx := B.exec
  have hb := B.bytes
  have hr := B.returns
  have hts := atoms_spec (ws := wbJ1_equals_b5fdf) B.pre
  have hta : ∀ w ∈ wsALL, w.before _ s = true := fun w h => hts w (List.mem_cons_of_mem _ h)
  have hown : s.vm.findClass RJ1 = some m.cls := findClass_of_methodNamed B.named
  have hlocks := B.notSynchronized
  subst hsz
  have hD := hD0.self (sz := s.heap.size)
  generalize hAe : va_A [(h0, .inl (cc0, 0, .inl f0))] s.heap.size = A at hD hF ⊢
  have hA : ∀ q : Nat, s.heap.size ≤ q → A q := fun q h => by rw [← hAe]; exact Or.inr h
  have hS : va_S A s.heap s.heap [] := va_S.rf
  have hP : va_P (dC, dI) vwCl [(h0, .inl (cc0, 0, .inl f0))] s.heap := hP
  have hl := lv_entry ([.ref h0, .ref (g 35)]) (n := 3) (Nat.le_of_ble_eq_true rfl)
  rw [lg_entry_eq]
  generalize (lg_sl ([.ref h0, .ref (g 35)]) ++ List.replicate (3 - (lg_sl ([.ref h0, .ref (g 35)])).length) Slot.unset).toArray = ls at hl ⊢
  have hl : lv_has ls 3 [(0, .ref h0), (1, .ref (g 35))] := hl
  refine lv_aload_n hx hb dJ1_equals_b5fdf_0 rfl (lv_at hl 0 rfl) ?_
  refine va_alen (v := 0) hx hb hK hP 0 0 rfl rfl (show Int32.ofNat 0 = 0 by decide) dJ1_equals_b5fdf_1 ?_
  refine lv_aload_n hx hb dJ1_equals_b5fdf_2 rfl (lv_at hl 1 rfl) ?_
  refine va_tlen (v := 0) hx hb (ns_f41 hF) hS (by decide) dJ1_equals_b5fdf_3 ?_
  refine lv_icmp_ne (tgt := 34) hx hb dJ1_equals_b5fdf_4 (by decide) (fun c1 => absurd (by decide) c1) (fun c1 => ?_)
  refine lv_iconst (v := 0) hx hb dJ1_equals_b5fdf_7 (by decide) ?_
  refine lv_istore_n (lv' := [(2, .int 0), (0, .ref h0), (1, .ref (g 35))]) hx hb dJ1_equals_b5fdf_8 rfl hl (by decide) rfl (fun ls hl => ?_)
  refine lv_iload_n hx hb dJ1_equals_b5fdf_9 rfl (lv_at hl 0 rfl) ?_
  refine lv_aload_n hx hb dJ1_equals_b5fdf_10 rfl (lv_at hl 1 rfl) ?_
  refine va_alen (v := 0) hx hb hK hP 0 0 rfl rfl (show Int32.ofNat 0 = 0 by decide) dJ1_equals_b5fdf_11 ?_
  refine lv_icmp_ge (tgt := 32) hx hb dJ1_equals_b5fdf_12 (by decide) (fun c2 => ?_) (fun c2 => absurd (by decide) c2)
  refine lv_iconst (v := 1) hx hb dJ1_equals_b5fdf_32 (by decide) ?_
  have hP9 := hP.sub (ws' := [(h0, .inl (cc0, 0, .inl f0))]) [0] rfl
  have hD9 := hD.sub (ws' := [(h0, .inl (cc0, 0, .inl f0))]) [0] (by decide) rfl
  have hK9 := hK.sub (tys' := [(cc0, .byte)]) [0] rfl
  refine W.widen (k := 0) (n := 0) (Nat.le_of_ble_eq_true rfl) (Nat.le_of_ble_eq_true rfl) ?_
  exact W.zret (v := 1) hx hb hr (by decide) (fun t ht hW => ⟨⟨_, (), rfl, rfl, by rw [ht]; exact hP9, va_K.moved hW.alike hK9, hD9⟩, hS.F ht⟩) hS.2.2 dJ1_equals_b5fdf_33
set_option maxHeartbeats 4000000 in
set_option maxRecDepth 100000 in
theorem kJ0_isEmpty_aae02_4 (l : Launch) (dC : Nat → ClassId) (dI : Nat → Nat → Nat) (g : Nat → Nat) (sz : Nat) (h0 : Nat) (h1 : Nat) (v0 : Value) (v1 : Value) (v2 : Value) (cc0 : ClassId) (f0 : Nat → Int32) (hf0 : sb_Fit f0) : Met l yJ0_isEmpty_aae02 wbJ0_isEmpty_aae02 ({ frames := 0, cells := 0, slots := 0, locals := 0 }) (va_Pc [.ref h0] (fun U => U.heap.size = sz ∧ va_P (dC, dI) vwCl [(h0, .inr (0, [.ref h1, v0, v1, v2])), (h1, .inl (cc0, 3, .inl f0))] U.heap ∧ va_K (dC, dI) vwCl [(cc0, .byte)] U ∧ va_D (fun _ => True) [(h0, .inr (0, [.ref h1, v0, v1, v2])), (h1, .inl (cc0, 3, .inl f0))] ∧ ns_F g (va_A [(h0, .inr (0, [.ref h1, v0, v1, v2])), (h1, .inl (cc0, 3, .inl f0))] sz) U U.heap)) (va_Qi (fun (r : Int32) (_ : Unit) => r = 0) (fun _ t => va_P (dC, dI) vwCl [(h0, .inr (0, [.ref h1, v0, v1, v2])), (h1, .inl (cc0, 3, .inl f0))] t.heap ∧ va_K (dC, dI) vwCl [(cc0, .byte)] t ∧ va_D (va_A [(h0, .inr (0, [.ref h1, v0, v1, v2])), (h1, .inl (cc0, 3, .inl f0))] sz) [(h0, .inr (0, [.ref h1, v0, v1, v2])), (h1, .inl (cc0, 3, .inl f0))]) (va_A [(h0, .inr (0, [.ref h1, v0, v1, v2])), (h1, .inl (cc0, 3, .inl f0))] sz)) 0 0 (va_A [(h0, .inr (0, [.ref h1, v0, v1, v2])), (h1, .inl (cc0, 3, .inl f0))] sz) := by
  refine Met.ofW (cc := cJ0_isEmpty_aae02) (maxL := 1) (ret := (some .boolean)) (by decide) rfl ?_
  intro p e s m args below meth c s₁ B hml hv
  obtain ⟨rfl, hsz, hP, hK, hD0, hF⟩ := hv
  have hx := B.exec
  have hb := B.bytes
  have hr := B.returns
  have hts := atoms_spec (ws := wbJ0_isEmpty_aae02) B.pre
  have hta : ∀ w ∈ wsALL, w.before _ s = true := fun w h => hts w (List.mem_cons_of_mem _ h)
  have hown : s.vm.findClass RJ0 = some m.cls := findClass_of_methodNamed B.named
  have hlocks := B.notSynchronized
  subst hsz
  have hD := hD0.self (sz := s.heap.size)
  generalize hAe : va_A [(h0, .inr (0, [.ref h1, v0, v1, v2])), (h1, .inl (cc0, 3, .inl f0))] s.heap.size = A at hD hF ⊢
  have hA : ∀ q : Nat, s.heap.size ≤ q → A q := fun q h => by rw [← hAe]; exact Or.inr h
  have hS : va_S A s.heap s.heap [] := va_S.rf
  have hP : va_P (dC, dI) vwCl [(h0, .inr (0, [.ref h1, v0, v1, v2])), (h1, .inl (cc0, 3, .inl f0))] s.heap := hP
  have hl := lv_entry ([.ref h0]) (n := 1) (Nat.le_of_ble_eq_true rfl)
  rw [lg_entry_eq]
  generalize (lg_sl ([.ref h0]) ++ List.replicate (1 - (lg_sl ([.ref h0])).length) Slot.unset).toArray = ls at hl ⊢
  have hl : lv_has ls 1 [(0, .ref h0)] := hl
  refine lv_aload_n hx hb dJ0_isEmpty_aae02_0 rfl (lv_at hl 0 rfl) ?_
  refine va_get (D := (dC, dI)) (ci := 0) (v := .ref h1) (C := RJ0) (T := TJ0) (N := 4) hx hb hta naJ0 hown hK hP 0 rfl rfl 0 (by decide) (hta _ wm341) (fun _ h9 => h9) rfl dJ0_isEmpty_aae02_1 ?_
  refine va_alen (v := 3) hx hb hK hP 1 0 rfl rfl (show Int32.ofNat 3 = 3 by decide) dJ0_isEmpty_aae02_4 ?_
  refine lv_if_ne (tgt := 12) hx hb dJ0_isEmpty_aae02_5 (by decide) (fun c1 => ?_) (fun c1 => absurd c1 (by decide))
  refine lv_iconst (v := 0) hx hb dJ0_isEmpty_aae02_12 (by decide) ?_
  have hP9 := hP.sub (ws' := [(h0, .inr (0, [.ref h1, v0, v1, v2])), (h1, .inl (cc0, 3, .inl f0))]) [0, 1] rfl
  have hD9 := hD.sub (ws' := [(h0, .inr (0, [.ref h1, v0, v1, v2])), (h1, .inl (cc0, 3, .inl f0))]) [0, 1] (by decide) rfl
  have hK9 := hK.sub (tys' := [(cc0, .byte)]) [0] rfl
  refine W.widen (k := 0) (n := 0) (Nat.le_of_ble_eq_true rfl) (Nat.le_of_ble_eq_true rfl) ?_
  exact W.zret (v := 0) hx hb hr (by decide) (fun t ht hW => ⟨⟨_, (), rfl, rfl, by rw [ht]; exact hP9, va_K.moved hW.alike hK9, hD9⟩, hS.F ht⟩) hS.2.2 dJ0_isEmpty_aae02_13
set_option maxHeartbeats 4000000 in
set_option maxRecDepth 100000 in
theorem kX9_word_10 (l : Launch) (dC : Nat → ClassId) (dI : Nat → Nat → Nat) (g : Nat → Nat) (sz : Nat) (h0 : Nat) (x0 : Int32) (ex0 : (-2147483648 : Int) ≤ x0.toInt ∧ x0.toInt ≤ (-1 : Int)) (hlt : l.stackTraces = false) : vx_Met l yX9_word wbX9_word ({ frames := 6, cells := 1, slots := 6, locals := 82 }) (va_Pc [.ref h0, .int x0, .int 9] (fun U => U.heap.size = sz ∧ va_P (dC, dI) vwCl [] U.heap ∧ va_K (dC, dI) vwCl [] U ∧ va_D (fun _ => True) [] ∧ ns_F g (va_A [] sz) U U.heap)) (va_Qv (fun _ : Unit => False) (fun _ _ => True) (va_A [] sz)) (vx_X (fun _ : Unit => True) (fun E _ _ => E = "java/lang/IllegalArgumentException") (va_A [] sz)) 1 6 (va_A [] sz) := by
  refine vx_ofW (cc := cX9_word) (maxL := 4) (ret := (some .int)) (by decide) rfl ?_
  intro p e s m args below meth c s₁ B hml hnox hv
  obtain ⟨rfl, hsz, hP, hK, hD0, hF⟩ := hv
  have hx := B.exec
  have hb := B.bytes
  have hr := B.returns
  have hts := atoms_spec (ws := wbX9_word) B.pre
  have hta : ∀ w ∈ wsALL, w.before _ s = true := fun w h => hts w (List.mem_cons_of_mem _ h)
  have hown : s.vm.findClass RX9 = some m.cls := findClass_of_methodNamed B.named
  have hlocks := B.notSynchronized
  subst hsz
  have hD := hD0.self (sz := s.heap.size)
  generalize hAe : va_A [] s.heap.size = A at hD hF ⊢
  have hA : ∀ q : Nat, s.heap.size ≤ q → A q := fun q h => by rw [← hAe]; exact Or.inr h
  have hS : va_S A s.heap s.heap [] := va_S.rf
  have hP : va_P (dC, dI) vwCl [] s.heap := hP
  have hl := lv_entry ([.ref h0, .int x0, .int 9]) (n := 4) (Nat.le_of_ble_eq_true rfl)
  rw [lg_entry_eq]
  generalize (lg_sl ([.ref h0, .int x0, .int 9]) ++ List.replicate (4 - (lg_sl ([.ref h0, .int x0, .int 9])).length) Slot.unset).toArray = ls at hl ⊢
  have hl : lv_has ls 4 [(0, .ref h0), (1, .int x0), (2, .int 9)] := hl
  refine lv_iload_n hx hb dX9_word_0 rfl (lv_at hl 1 rfl) ?_
  refine lv_if_lt (tgt := 10) hx hb dX9_word_1 (by decide) (fun c1 => ?_) (fun c1 => absurd (show x0 < (0 : Int32) from Int32.lt_iff_toInt_lt.mpr (show x0.toInt < (0 : Int) by omega)) c1)
  exact vx_throwS hx hb hlt (text := "letter is 0 to 25") (sa := (g 10)) (names := ["java/lang/RuntimeException", "java/lang/Exception"]) hown (by decide) (by decide) (hta _ wm225) (hta _ wm226) (ns_f21 hF) (vx_hat (B := [.declares ⟨"java/lang/RuntimeException", "<init>", "(Ljava/lang/String;)V"⟩, .declares ⟨"java/lang/Exception", "<init>", "(Ljava/lang/String;)V"⟩, .declares ⟨"java/lang/Throwable", "<init>", "(Ljava/lang/String;)V"⟩, .castable "java/lang/IllegalArgumentException" "java/lang/IllegalArgumentException"]) (fun w9 h9 => hta w9 (vm0 w9 h9)) (by decide +kernel) (vx_c (va_Nw.use rfl (ns_f12 hF)) (vx_c (va_Nw.use rfl (ns_f13 hF)) (vx_c (va_Nw.use rfl (ns_f14 hF)) (vx_c (va_Nw.use rfl (ns_f11 hF)) vx_n))))) (by decide +kernel) (ns_f18 hF) (ns_f19 hF) hS (by rw [hml]; exact hl.1) dX9_word_10 dX9_word_13 dX9_word_14 dX9_word_16 dX9_word_19 (fun x hx => (hnox x hx).elim) (Nat.le_of_ble_eq_true rfl) (Nat.le_of_ble_eq_true rfl) (Nat.le_of_ble_eq_true rfl) (Nat.le_of_ble_eq_true rfl) hlocks (fun t9 hal hsz9 hk9 => ⟨(), trivial, rfl, Nat.le_trans hS.1 hsz9, fun q hq1 hq2 => (hk9 q (Nat.lt_of_lt_of_le hq1 hS.1)).trans (hS.2.1 q hq1 hq2)⟩) hS.2.2 (Nat.le_of_ble_eq_true rfl) (Nat.le_of_ble_eq_true rfl)
set_option maxHeartbeats 4000000 in
set_option maxRecDepth 100000 in
theorem kX7_signsOfPlain (l : Launch) (dC : Nat → ClassId) (dI : Nat → Nat → Nat) (g : Nat → Nat) (sz : Nat) (h0 : Nat) (v0 : Value) (v1 : Value) (v2 : Value) (v3 : Value) (v4 : Value) (v5 : Value) (v6 : Value) (v7 : Value) (h1 : Nat) (v8 : Value) : Met l yX7_signsOfPlain wbX7_signsOfPlain ({ frames := 0, cells := 0, slots := 0, locals := 0 }) (va_Pc [.ref h0] (fun U => U.heap.size = sz ∧ va_P (dC, dI) vwCl [(h0, .inr (14, [v0, v1, v2, v3, v4, v5, v6, v7, .ref h1, v8]))] U.heap ∧ va_K (dC, dI) vwCl [] U ∧ va_D (fun _ => True) [(h0, .inr (14, [v0, v1, v2, v3, v4, v5, v6, v7, .ref h1, v8]))] ∧ ns_F g (va_A [(h0, .inr (14, [v0, v1, v2, v3, v4, v5, v6, v7, .ref h1, v8]))] sz) U U.heap)) (va_Qr (fun _ : Unit => True) (fun _ r t => r = h1 ∧ va_P (dC, dI) vwCl [(h0, .inr (14, [v0, v1, v2, v3, v4, v5, v6, v7, .ref h1, v8]))] t.heap ∧ va_K (dC, dI) vwCl [] t ∧ va_D (va_A [(h0, .inr (14, [v0, v1, v2, v3, v4, v5, v6, v7, .ref h1, v8]))] sz) [(h0, .inr (14, [v0, v1, v2, v3, v4, v5, v6, v7, .ref h1, v8]))]) (va_A [(h0, .inr (14, [v0, v1, v2, v3, v4, v5, v6, v7, .ref h1, v8]))] sz)) 0 0 (va_A [(h0, .inr (14, [v0, v1, v2, v3, v4, v5, v6, v7, .ref h1, v8]))] sz) := by
  refine Met.ofW (cc := cX7_signsOfPlain) (maxL := 1) (ret := (some (.object "Nestprint$Row"))) (by decide) rfl ?_
  intro p e s m args below meth c s₁ B hml hv
  obtain ⟨rfl, hsz, hP, hK, hD0, hF⟩ := hv
  have hx := B.exec
  have hb := B.bytes
  have hr := B.returns
  have hts := atoms_spec (ws := wbX7_signsOfPlain) B.pre
  have hta : ∀ w ∈ wsALL, w.before _ s = true := fun w h => hts w (List.mem_cons_of_mem _ h)
  have hown : s.vm.findClass RX7 = some m.cls := findClass_of_methodNamed B.named
  have hlocks := B.notSynchronized
  subst hsz
  have hD := hD0.self (sz := s.heap.size)
  generalize hAe : va_A [(h0, .inr (14, [v0, v1, v2, v3, v4, v5, v6, v7, .ref h1, v8]))] s.heap.size = A at hD hF ⊢
  have hA : ∀ q : Nat, s.heap.size ≤ q → A q := fun q h => by rw [← hAe]; exact Or.inr h
  have hS : va_S A s.heap s.heap [] := va_S.rf
  have hP : va_P (dC, dI) vwCl [(h0, .inr (14, [v0, v1, v2, v3, v4, v5, v6, v7, .ref h1, v8]))] s.heap := hP
  have hl := lv_entry ([.ref h0]) (n := 1) (Nat.le_of_ble_eq_true rfl)
  rw [lg_entry_eq]
  generalize (lg_sl ([.ref h0]) ++ List.replicate (1 - (lg_sl ([.ref h0])).length) Slot.unset).toArray = ls at hl ⊢
  have hl : lv_has ls 1 [(0, .ref h0)] := hl
  refine lv_aload_n hx hb dX7_signsOfPlain_0 rfl (lv_at hl 0 rfl) ?_
  refine va_get (D := (dC, dI)) (ci := 14) (v := .ref h1) (C := RX7) (T := TX7) (N := 10) hx hb hta naX7 hown hK hP 0 rfl rfl 8 (by decide) (hta _ wm162) (fun _ h9 => h9) rfl dX7_signsOfPlain_1 ?_
  have hP9 := hP.sub (ws' := [(h0, .inr (14, [v0, v1, v2, v3, v4, v5, v6, v7, .ref h1, v8]))]) [0] rfl
  have hD9 := hD.sub (ws' := [(h0, .inr (14, [v0, v1, v2, v3, v4, v5, v6, v7, .ref h1, v8]))]) [0] (by decide) rfl
  have hK9 := hK.sub (tys' := []) [] rfl
  refine W.widen (k := 0) (n := 0) (Nat.le_of_ble_eq_true rfl) (Nat.le_of_ble_eq_true rfl) ?_
  exact W.aret (v := .ref h1) hx hb hr (by first | exact Or.inl ⟨_, rfl⟩ | exact Or.inr ⟨_, rfl⟩) (Or.inr ⟨_, rfl⟩) (fun t ht hW => ⟨⟨(), _, rfl, trivial, rfl, by rw [ht]; exact hP9, va_K.moved hW.alike hK9, hD9⟩, hS.F ht⟩) hS.2.2 dX7_signsOfPlain_4
set_option maxHeartbeats 4000000 in
set_option maxRecDepth 100000 in
theorem kJ3_checkFromToIndex_8c36e_10 (l : Launch) (dC : Nat → ClassId) (dI : Nat → Nat → Nat) (g : Nat → Nat) (sz : Nat)  : Met l yJ3_checkFromToIndex_8c36e wbJ3_checkFromToIndex_8c36e ({ frames := 0, cells := 0, slots := 0, locals := 0 }) (va_Pc [.int 0, .int 4, .int 5, .ref (g 1)] (fun U => U.heap.size = sz ∧ va_P (dC, dI) vwCl [] U.heap ∧ va_K (dC, dI) vwCl [] U ∧ va_D (fun _ => True) [] ∧ ns_F g (va_A [] sz) U U.heap)) (va_Qi (fun (r : Int32) (_ : Unit) => r = 0) (fun _ t => va_P (dC, dI) vwCl [] t.heap ∧ va_K (dC, dI) vwCl [] t ∧ va_D (va_A [] sz) []) (va_A [] sz)) 0 0 (va_A [] sz) := by
  refine Met.ofW (cc := cJ3_checkFromToIndex_8c36e) (maxL := 4) (ret := (some .int)) (by decide) rfl ?_
  intro p e s m args below meth c s₁ B hml hv
  obtain ⟨rfl, hsz, hP, hK, hD0, hF⟩ := hv
  have hx := B.exec
  have hb := B.bytes
  have hr := B.returns
  have hts := atoms_spec (ws := wbJ3_checkFromToIndex_8c36e) B.pre
  have hta : ∀ w ∈ wsALL, w.before _ s = true := fun w h => hts w (List.mem_cons_of_mem _ h)
  have hown : s.vm.findClass RJ3 = some m.cls := findClass_of_methodNamed B.named
  have hlocks := B.notSynchronized
  subst hsz
  have hD := hD0.self (sz := s.heap.size)
  generalize hAe : va_A [] s.heap.size = A at hD hF ⊢
  have hA : ∀ q : Nat, s.heap.size ≤ q → A q := fun q h => by rw [← hAe]; exact Or.inr h
  have hS : va_S A s.heap s.heap [] := va_S.rf
  have hP : va_P (dC, dI) vwCl [] s.heap := hP
  have hl := lv_entry ([.int 0, .int 4, .int 5, .ref (g 1)]) (n := 4) (Nat.le_of_ble_eq_true rfl)
  rw [lg_entry_eq]
  generalize (lg_sl ([.int 0, .int 4, .int 5, .ref (g 1)]) ++ List.replicate (4 - (lg_sl ([.int 0, .int 4, .int 5, .ref (g 1)])).length) Slot.unset).toArray = ls at hl ⊢
  have hl : lv_has ls 4 [(0, .int 0), (1, .int 4), (2, .int 5), (3, .ref (g 1))] := hl
  refine lv_iload_n hx hb dJ3_checkFromToIndex_8c36e_0 rfl (lv_at hl 0 rfl) ?_
  refine lv_if_lt (tgt := 14) hx hb dJ3_checkFromToIndex_8c36e_1 (by decide) (fun c1 => absurd c1 (by decide)) (fun c1 => ?_)
  refine lv_iload_n hx hb dJ3_checkFromToIndex_8c36e_4 rfl (lv_at hl 0 rfl) ?_
  refine lv_iload_n hx hb dJ3_checkFromToIndex_8c36e_5 rfl (lv_at hl 1 rfl) ?_
  refine lv_icmp_gt (tgt := 14) hx hb dJ3_checkFromToIndex_8c36e_6 (by decide) (fun c2 => absurd c2 (by decide)) (fun c2 => ?_)
  refine lv_iload_n hx hb dJ3_checkFromToIndex_8c36e_9 rfl (lv_at hl 1 rfl) ?_
  refine lv_iload_n hx hb dJ3_checkFromToIndex_8c36e_10 rfl (lv_at hl 2 rfl) ?_
  refine lv_icmp_le (tgt := 22) hx hb dJ3_checkFromToIndex_8c36e_11 (by decide) (fun c3 => ?_) (fun c3 => absurd (by decide) c3)
  refine lv_iload_n hx hb dJ3_checkFromToIndex_8c36e_22 rfl (lv_at hl 0 rfl) ?_
  have hP9 := hP.sub (ws' := []) [] rfl
  have hD9 := hD.sub (ws' := []) [] (by decide) rfl
  have hK9 := hK.sub (tys' := []) [] rfl
  refine W.widen (k := 0) (n := 0) (Nat.le_of_ble_eq_true rfl) (Nat.le_of_ble_eq_true rfl) ?_
  exact W.iret (v := 0) hx hb hr (fun t ht hW => ⟨⟨_, (), rfl, rfl, by rw [ht]; exact hP9, va_K.moved hW.alike hK9, hD9⟩, hS.F ht⟩) hS.2.2 dJ3_checkFromToIndex_8c36e_23
set_option maxHeartbeats 4000000 in
set_option maxRecDepth 100000 in
theorem kX16_thrown_2 (l : Launch) (dC : Nat → ClassId) (dI : Nat → Nat → Nat) (g : Nat → Nat) (sz : Nat) (h0 : Nat) (v0 : Value) (v1 : Value) (v2 : Value) (v3 : Value) (v4 : Value) (v5 : Value) (v6 : Value) (v7 : Value) : Met l yX16_thrown wbX16_thrown ({ frames := 0, cells := 0, slots := 0, locals := 0 }) (va_Pc [.ref h0] (fun U => U.heap.size = sz ∧ va_P (dC, dI) vwCl [(h0, .inr (23, [.int 0, v0, v1, v2, v3, v4, v5, v6, v7]))] U.heap ∧ va_K (dC, dI) vwCl [] U ∧ va_D (fun _ => True) [(h0, .inr (23, [.int 0, v0, v1, v2, v3, v4, v5, v6, v7]))] ∧ ns_F g (va_A [(h0, .inr (23, [.int 0, v0, v1, v2, v3, v4, v5, v6, v7]))] sz) U U.heap)) (va_Qi (fun (r : Int32) (_ : Unit) => r = 0) (fun _ t => va_P (dC, dI) vwCl [(h0, .inr (23, [.int 0, v0, v1, v2, v3, v4, v5, v6, v7]))] t.heap ∧ va_K (dC, dI) vwCl [] t ∧ va_D (va_A [(h0, .inr (23, [.int 0, v0, v1, v2, v3, v4, v5, v6, v7]))] sz) [(h0, .inr (23, [.int 0, v0, v1, v2, v3, v4, v5, v6, v7]))]) (va_A [(h0, .inr (23, [.int 0, v0, v1, v2, v3, v4, v5, v6, v7]))] sz)) 0 0 (va_A [(h0, .inr (23, [.int 0, v0, v1, v2, v3, v4, v5, v6, v7]))] sz) := by
  refine Met.ofW (cc := cX16_thrown) (maxL := 1) (ret := (some .int)) (by decide) rfl ?_
  intro p e s m args below meth c s₁ B hml hv
  obtain ⟨rfl, hsz, hP, hK, hD0, hF⟩ := hv
  have hx := B.exec
  have hb := B.bytes
  have hr := B.returns
  have hts := atoms_spec (ws := wbX16_thrown) B.pre
  have hta : ∀ w ∈ wsALL, w.before _ s = true := fun w h => hts w (List.mem_cons_of_mem _ h)
  have hown : s.vm.findClass RX16 = some m.cls := findClass_of_methodNamed B.named
  have hlocks := B.notSynchronized
  subst hsz
  have hD := hD0.self (sz := s.heap.size)
  generalize hAe : va_A [(h0, .inr (23, [.int 0, v0, v1, v2, v3, v4, v5, v6, v7]))] s.heap.size = A at hD hF ⊢
  have hA : ∀ q : Nat, s.heap.size ≤ q → A q := fun q h => by rw [← hAe]; exact Or.inr h
  have hS : va_S A s.heap s.heap [] := va_S.rf
  have hP : va_P (dC, dI) vwCl [(h0, .inr (23, [.int 0, v0, v1, v2, v3, v4, v5, v6, v7]))] s.heap := hP
  have hl := lv_entry ([.ref h0]) (n := 1) (Nat.le_of_ble_eq_true rfl)
  rw [lg_entry_eq]
  generalize (lg_sl ([.ref h0]) ++ List.replicate (1 - (lg_sl ([.ref h0])).length) Slot.unset).toArray = ls at hl ⊢
  have hl : lv_has ls 1 [(0, .ref h0)] := hl
  refine lv_aload_n hx hb dX16_thrown_0 rfl (lv_at hl 0 rfl) ?_
  refine va_get (D := (dC, dI)) (ci := 23) (v := .int 0) (C := RX16) (T := TX16) (N := 9) hx hb hta naX16 hown hK hP 0 rfl rfl 0 (by decide) (hta _ wm234) (fun _ h9 => h9) rfl dX16_thrown_1 ?_
  have hP9 := hP.sub (ws' := [(h0, .inr (23, [.int 0, v0, v1, v2, v3, v4, v5, v6, v7]))]) [0] rfl
  have hD9 := hD.sub (ws' := [(h0, .inr (23, [.int 0, v0, v1, v2, v3, v4, v5, v6, v7]))]) [0] (by decide) rfl
  have hK9 := hK.sub (tys' := []) [] rfl
  refine W.widen (k := 0) (n := 0) (Nat.le_of_ble_eq_true rfl) (Nat.le_of_ble_eq_true rfl) ?_
  exact W.iret (v := 0) hx hb hr (fun t ht hW => ⟨⟨_, (), rfl, rfl, by rw [ht]; exact hP9, va_K.moved hW.alike hK9, hD9⟩, hS.F ht⟩) hS.2.2 dX16_thrown_4
set_option maxHeartbeats 4000000 in
set_option maxRecDepth 100000 in
theorem kJ5_length_8abf5_2 (l : Launch) (dC : Nat → ClassId) (dI : Nat → Nat → Nat) (g : Nat → Nat) (sz : Nat) (h0 : Nat) (v0 : Value) (v1 : Value) (v2 : Value) : Met l yJ5_length_8abf5 wbJ5_length_8abf5 ({ frames := 0, cells := 0, slots := 0, locals := 0 }) (va_Pc [.ref h0] (fun U => U.heap.size = sz ∧ va_P (dC, dI) vwCl [(h0, .inr (1, [v0, v1, v2, .int 2]))] U.heap ∧ va_K (dC, dI) vwCl [] U ∧ va_D (fun _ => True) [(h0, .inr (1, [v0, v1, v2, .int 2]))] ∧ ns_F g (va_A [(h0, .inr (1, [v0, v1, v2, .int 2]))] sz) U U.heap)) (va_Qi (fun (r : Int32) (_ : Unit) => r = 2) (fun _ t => va_P (dC, dI) vwCl [(h0, .inr (1, [v0, v1, v2, .int 2]))] t.heap ∧ va_K (dC, dI) vwCl [] t ∧ va_D (va_A [(h0, .inr (1, [v0, v1, v2, .int 2]))] sz) [(h0, .inr (1, [v0, v1, v2, .int 2]))]) (va_A [(h0, .inr (1, [v0, v1, v2, .int 2]))] sz)) 0 0 (va_A [(h0, .inr (1, [v0, v1, v2, .int 2]))] sz) := by
  refine Met.ofW (cc := cJ5_length_8abf5) (maxL := 1) (ret := (some .int)) (by decide) rfl ?_
  intro p e s m args below meth c s₁ B hml hv
  obtain ⟨rfl, hsz, hP, hK, hD0, hF⟩ := hv
  have hx := B.exec
  have hb := B.bytes
  have hr := B.returns
  have hts := atoms_spec (ws := wbJ5_length_8abf5) B.pre
  have hta : ∀ w ∈ wsALL, w.before _ s = true := fun w h => hts w (List.mem_cons_of_mem _ h)
  have hown : s.vm.findClass RJ5 = some m.cls := findClass_of_methodNamed B.named
  have hlocks := B.notSynchronized
  subst hsz
  have hD := hD0.self (sz := s.heap.size)
  generalize hAe : va_A [(h0, .inr (1, [v0, v1, v2, .int 2]))] s.heap.size = A at hD hF ⊢
  have hA : ∀ q : Nat, s.heap.size ≤ q → A q := fun q h => by rw [← hAe]; exact Or.inr h
  have hS : va_S A s.heap s.heap [] := va_S.rf
  have hP : va_P (dC, dI) vwCl [(h0, .inr (1, [v0, v1, v2, .int 2]))] s.heap := hP
  have hl := lv_entry ([.ref h0]) (n := 1) (Nat.le_of_ble_eq_true rfl)
  rw [lg_entry_eq]
  generalize (lg_sl ([.ref h0]) ++ List.replicate (1 - (lg_sl ([.ref h0])).length) Slot.unset).toArray = ls at hl ⊢
  have hl : lv_has ls 1 [(0, .ref h0)] := hl
  refine lv_aload_n hx hb dJ5_length_8abf5_0 rfl (lv_at hl 0 rfl) ?_
  refine va_get (D := (dC, dI)) (ci := 1) (v := .int 2) (C := RJ4) (T := TJ4) (N := 4) hx hb hta naJ4 hown hK hP 0 rfl rfl 3 (by decide) (hta _ wm290) (fun _ h9 => h9) rfl dJ5_length_8abf5_1 ?_
  have hP9 := hP.sub (ws' := [(h0, .inr (1, [v0, v1, v2, .int 2]))]) [0] rfl
  have hD9 := hD.sub (ws' := [(h0, .inr (1, [v0, v1, v2, .int 2]))]) [0] (by decide) rfl
  have hK9 := hK.sub (tys' := []) [] rfl
  refine W.widen (k := 0) (n := 0) (Nat.le_of_ble_eq_true rfl) (Nat.le_of_ble_eq_true rfl) ?_
  exact W.iret (v := 2) hx hb hr (fun t ht hW => ⟨⟨_, (), rfl, rfl, by rw [ht]; exact hP9, va_K.moved hW.alike hK9, hD9⟩, hS.F ht⟩) hS.2.2 dJ5_length_8abf5_4
set_option maxHeartbeats 4000000 in
set_option maxRecDepth 100000 in
theorem kJ0_isLatin1_aae02 (l : Launch) (dC : Nat → ClassId) (dI : Nat → Nat → Nat) (g : Nat → Nat) (sz : Nat)  : Met l yJ0_isLatin1_aae02 wbJ0_isLatin1_aae02 ({ frames := 0, cells := 0, slots := 0, locals := 0 }) (va_Pc [.ref (g 32)] (fun U => U.heap.size = sz ∧ va_P (dC, dI) vwCl [] U.heap ∧ va_K (dC, dI) vwCl [] U ∧ va_D (fun _ => True) [] ∧ ns_F g (va_A [] sz) U U.heap)) (va_Qi (fun (r : Int32) (_ : Unit) => r = 1) (fun _ t => va_P (dC, dI) vwCl [] t.heap ∧ va_K (dC, dI) vwCl [] t ∧ va_D (va_A [] sz) []) (va_A [] sz)) 0 0 (va_A [] sz) := by
  refine Met.ofW (cc := cJ0_isLatin1_aae02) (maxL := 1) (ret := (some .boolean)) (by decide) rfl ?_
  intro p e s m args below meth c s₁ B hml hv
  obtain ⟨rfl, hsz, hP, hK, hD0, hF⟩ := hv
  have hx := B.exec
  have hb := B.bytes
  have hr := B.returns
  have hts := atoms_spec (ws := wbJ0_isLatin1_aae02) B.pre
  have hta : ∀ w ∈ wsALL, w.before _ s = true := fun w h => hts w (List.mem_cons_of_mem _ h)
  have hown : s.vm.findClass RJ0 = some m.cls := findClass_of_methodNamed B.named
  have hlocks := B.notSynchronized
  subst hsz
  have hD := hD0.self (sz := s.heap.size)
  generalize hAe : va_A [] s.heap.size = A at hD hF ⊢
  have hA : ∀ q : Nat, s.heap.size ≤ q → A q := fun q h => by rw [← hAe]; exact Or.inr h
  have hS : va_S A s.heap s.heap [] := va_S.rf
  have hP : va_P (dC, dI) vwCl [] s.heap := hP
  have hl := lv_entry ([.ref (g 32)]) (n := 1) (Nat.le_of_ble_eq_true rfl)
  rw [lg_entry_eq]
  generalize (lg_sl ([.ref (g 32)]) ++ List.replicate (1 - (lg_sl ([.ref (g 32)])).length) Slot.unset).toArray = ls at hl ⊢
  have hl : lv_has ls 1 [(0, .ref (g 32))] := hl
  refine va_gets hx hb (ns_f15 hF) hS hown (hta _ wm569) (fun _ h9 => h9) dJ0_isLatin1_aae02_0 ?_
  refine lv_if_eq (tgt := 17) hx hb dJ0_isLatin1_aae02_3 (by decide) (fun c1 => absurd c1 (by decide)) (fun c1 => ?_)
  refine lv_aload_n hx hb dJ0_isLatin1_aae02_6 rfl (lv_at hl 0 rfl) ?_
  refine vk_getf hx hb (ns_f47 hF) hS hown (hta _ wm324) (fun _ h9 => h9) dJ0_isLatin1_aae02_7 ?_
  refine lv_if_ne (tgt := 17) hx hb dJ0_isLatin1_aae02_10 (by decide) (fun c2 => absurd (by decide) c2) (fun c2 => ?_)
  refine lv_iconst (v := 1) hx hb dJ0_isLatin1_aae02_13 (by decide) ?_
  refine lv_goto (tgt := 18) hx hb dJ0_isLatin1_aae02_14 (by decide) ?_
  have hP9 := hP.sub (ws' := []) [] rfl
  have hD9 := hD.sub (ws' := []) [] (by decide) rfl
  have hK9 := hK.sub (tys' := []) [] rfl
  refine W.widen (k := 0) (n := 0) (Nat.le_of_ble_eq_true rfl) (Nat.le_of_ble_eq_true rfl) ?_
  exact W.zret (v := 1) hx hb hr (by decide) (fun t ht hW => ⟨⟨_, (), rfl, rfl, by rw [ht]; exact hP9, va_K.moved hW.alike hK9, hD9⟩, hS.F ht⟩) hS.2.2 dJ0_isLatin1_aae02_18
set_option maxHeartbeats 4000000 in
set_option maxRecDepth 100000 in
theorem kX16_isIn_37 (l : Launch) (dC : Nat → ClassId) (dI : Nat → Nat → Nat) (g : Nat → Nat) (sz : Nat)  : Met l yX16_isIn wbX16_isIn ({ frames := 0, cells := 0, slots := 0, locals := 0 }) (va_Pc [.int 7, .int 0, .int 7] (fun U => U.heap.size = sz ∧ va_P (dC, dI) vwCl [] U.heap ∧ va_K (dC, dI) vwCl [] U ∧ va_D (fun _ => True) [] ∧ ns_F g (va_A [] sz) U U.heap)) (va_Qi (fun (r : Int32) (_ : Unit) => r = 1) (fun _ t => va_P (dC, dI) vwCl [] t.heap ∧ va_K (dC, dI) vwCl [] t ∧ va_D (va_A [] sz) []) (va_A [] sz)) 0 0 (va_A [] sz) := by
  refine Met.ofW (cc := cX16_isIn) (maxL := 3) (ret := (some .boolean)) (by decide) rfl ?_
  intro p e s m args below meth c s₁ B hml hv
  obtain ⟨rfl, hsz, hP, hK, hD0, hF⟩ := hv
  have hx := B.exec
  have hb := B.bytes
  have hr := B.returns
  have hts := atoms_spec (ws := wbX16_isIn) B.pre
  have hta : ∀ w ∈ wsALL, w.before _ s = true := fun w h => hts w (List.mem_cons_of_mem _ h)
  have hown : s.vm.findClass RX16 = some m.cls := findClass_of_methodNamed B.named
  have hlocks := B.notSynchronized
  subst hsz
  have hD := hD0.self (sz := s.heap.size)
  generalize hAe : va_A [] s.heap.size = A at hD hF ⊢
  have hA : ∀ q : Nat, s.heap.size ≤ q → A q := fun q h => by rw [← hAe]; exact Or.inr h
  have hS : va_S A s.heap s.heap [] := va_S.rf
  have hP : va_P (dC, dI) vwCl [] s.heap := hP
  have hl := lv_entry ([.int 7, .int 0, .int 7]) (n := 3) (Nat.le_of_ble_eq_true rfl)
  rw [lg_entry_eq]
  generalize (lg_sl ([.int 7, .int 0, .int 7]) ++ List.replicate (3 - (lg_sl ([.int 7, .int 0, .int 7])).length) Slot.unset).toArray = ls at hl ⊢
  have hl : lv_has ls 3 [(0, .int 7), (1, .int 0), (2, .int 7)] := hl
  refine lv_iload_n hx hb dX16_isIn_0 rfl (lv_at hl 0 rfl) ?_
  refine lv_iload_n hx hb dX16_isIn_1 rfl (lv_at hl 1 rfl) ?_
  refine lv_icmp_lt (tgt := 14) hx hb dX16_isIn_2 (by decide) (fun c1 => absurd c1 (by decide)) (fun c1 => ?_)
  refine lv_iload_n hx hb dX16_isIn_5 rfl (lv_at hl 0 rfl) ?_
  refine lv_iload_n hx hb dX16_isIn_6 rfl (lv_at hl 2 rfl) ?_
  refine lv_icmp_gt (tgt := 14) hx hb dX16_isIn_7 (by decide) (fun c2 => absurd c2 (by decide)) (fun c2 => ?_)
  refine lv_iconst (v := 1) hx hb dX16_isIn_10 (by decide) ?_
  refine lv_goto (tgt := 15) hx hb dX16_isIn_11 (by decide) ?_
  have hP9 := hP.sub (ws' := []) [] rfl
  have hD9 := hD.sub (ws' := []) [] (by decide) rfl
  have hK9 := hK.sub (tys' := []) [] rfl
  refine W.widen (k := 0) (n := 0) (Nat.le_of_ble_eq_true rfl) (Nat.le_of_ble_eq_true rfl) ?_
  exact W.zret (v := 1) hx hb hr (by decide) (fun t ht hW => ⟨⟨_, (), rfl, rfl, by rw [ht]; exact hP9, va_K.moved hW.alike hK9, hD9⟩, hS.F ht⟩) hS.2.2 dX16_isIn_15
set_option maxHeartbeats 4000000 in
set_option maxRecDepth 100000 in
theorem kX16_add_16 (l : Launch) (dC : Nat → ClassId) (dI : Nat → Nat → Nat) (g : Nat → Nat) (sz : Nat)  : Met l yX16_add wbX16_add ({ frames := 0, cells := 0, slots := 0, locals := 0 }) (va_Pc [.long (-2572638593093622838), .long 0] (fun U => U.heap.size = sz ∧ va_P (dC, dI) vwCl [] U.heap ∧ va_K (dC, dI) vwCl [] U ∧ va_D (fun _ => True) [] ∧ ns_F g (va_A [] sz) U U.heap)) (va_Ql (fun (r : Int64) (_ : Unit) => r = (-5964820091064101514)) (fun _ t => va_P (dC, dI) vwCl [] t.heap ∧ va_K (dC, dI) vwCl [] t ∧ va_D (va_A [] sz) []) (va_A [] sz)) 0 0 (va_A [] sz) := by
  refine Met.ofW (cc := cX16_add) (maxL := 4) (ret := (some .long)) (by decide) rfl ?_
  intro p e s m args below meth c s₁ B hml hv
  obtain ⟨rfl, hsz, hP, hK, hD0, hF⟩ := hv
  have hx := B.exec
  have hb := B.bytes
  have hr := B.returns
  have hts := atoms_spec (ws := wbX16_add) B.pre
  have hta : ∀ w ∈ wsALL, w.before _ s = true := fun w h => hts w (List.mem_cons_of_mem _ h)
  have hown : s.vm.findClass RX16 = some m.cls := findClass_of_methodNamed B.named
  have hlocks := B.notSynchronized
  subst hsz
  have hD := hD0.self (sz := s.heap.size)
  generalize hAe : va_A [] s.heap.size = A at hD hF ⊢
  have hA : ∀ q : Nat, s.heap.size ≤ q → A q := fun q h => by rw [← hAe]; exact Or.inr h
  have hS : va_S A s.heap s.heap [] := va_S.rf
  have hP : va_P (dC, dI) vwCl [] s.heap := hP
  have hl := lv_entry ([.long (-2572638593093622838), .long 0]) (n := 4) (Nat.le_of_ble_eq_true rfl)
  rw [lg_entry_eq]
  generalize (lg_sl ([.long (-2572638593093622838), .long 0]) ++ List.replicate (4 - (lg_sl ([.long (-2572638593093622838), .long 0])).length) Slot.unset).toArray = ls at hl ⊢
  have hl : lv_has ls 4 [(0, .long (-2572638593093622838)), (2, .long 0)] := hl
  refine lv_lload_n hx hb dX16_add_0 rfl (lv_at hl 0 rfl) ?_
  refine lv_ldc2 (v := 31) hx hb hown (hta _ wm1092) dX16_add_1 ?_
  refine lv_lmul hx hb dX16_add_4 ?_
  refine lv_topl (fun y1 ey1 => ?_)
  obtain rfl : y1 = (-5964820091064101514) := ey1.trans (by decide)
  refine lv_lload_n hx hb dX16_add_5 rfl (lv_at hl 1 rfl) ?_
  refine lv_ladd hx hb dX16_add_6 ?_
  refine lv_topl (fun y2 ey2 => ?_)
  obtain rfl : y2 = (-5964820091064101514) := ey2.trans (by decide)
  have hP9 := hP.sub (ws' := []) [] rfl
  have hD9 := hD.sub (ws' := []) [] (by decide) rfl
  have hK9 := hK.sub (tys' := []) [] rfl
  refine W.widen (k := 0) (n := 0) (Nat.le_of_ble_eq_true rfl) (Nat.le_of_ble_eq_true rfl) ?_
  exact W.lret (v := (-5964820091064101514)) hx hb hr (fun t ht hW => ⟨⟨_, (), rfl, rfl, by rw [ht]; exact hP9, va_K.moved hW.alike hK9, hD9⟩, hS.F ht⟩) hS.2.2 dX16_add_7
set_option maxHeartbeats 4000000 in
set_option maxRecDepth 100000 in
theorem kX16_said (l : Launch) (dC : Nat → ClassId) (dI : Nat → Nat → Nat) (g : Nat → Nat) (sz : Nat) (x0 : Int32) (ex0 : (-1 : Int) ≤ x0.toInt ∧ x0.toInt ≤ (-1 : Int)) : Met l yX16_said wbX16_said ({ frames := 0, cells := 0, slots := 0, locals := 0 }) (va_Pc [.ref (g 34), .int x0] (fun U => U.heap.size = sz ∧ va_P (dC, dI) vwCl [] U.heap ∧ va_K (dC, dI) vwCl [] U ∧ va_D (fun _ => True) [] ∧ ns_F g (va_A [] sz) U U.heap)) (va_Qr (fun _ : Unit => True) (fun _ r t => r = (g 34) ∧ va_P (dC, dI) vwCl [] t.heap ∧ va_K (dC, dI) vwCl [] t ∧ va_D (va_A [] sz) []) (va_A [] sz)) 0 0 (va_A [] sz) := by
  refine Met.ofW (cc := cX16_said) (maxL := 2) (ret := (some (.object "java/lang/String"))) (by decide) rfl ?_
  intro p e s m args below meth c s₁ B hml hv
  obtain ⟨rfl, hsz, hP, hK, hD0, hF⟩ := hv
  have hx := B.exec
  have hb := B.bytes
  have hr := B.returns
  have hts := atoms_spec (ws := wbX16_said) B.pre
  have hta : ∀ w ∈ wsALL, w.before _ s = true := fun w h => hts w (List.mem_cons_of_mem _ h)
  have hown : s.vm.findClass RX16 = some m.cls := findClass_of_methodNamed B.named
  have hlocks := B.notSynchronized
  subst hsz
  have hD := hD0.self (sz := s.heap.size)
  generalize hAe : va_A [] s.heap.size = A at hD hF ⊢
  have hA : ∀ q : Nat, s.heap.size ≤ q → A q := fun q h => by rw [← hAe]; exact Or.inr h
  have hS : va_S A s.heap s.heap [] := va_S.rf
  have hP : va_P (dC, dI) vwCl [] s.heap := hP
  have hl := lv_entry ([.ref (g 34), .int x0]) (n := 2) (Nat.le_of_ble_eq_true rfl)
  rw [lg_entry_eq]
  generalize (lg_sl ([.ref (g 34), .int x0]) ++ List.replicate (2 - (lg_sl ([.ref (g 34), .int x0])).length) Slot.unset).toArray = ls at hl ⊢
  have hl : lv_has ls 2 [(0, .ref (g 34)), (1, .int x0)] := hl
  refine lv_iload_n hx hb dX16_said_0 rfl (lv_at hl 1 rfl) ?_
  refine lv_iconst (v := (-1)) hx hb dX16_said_1 (by decide) ?_
  refine lv_icmp_ne (tgt := 7) hx hb dX16_said_2 (by decide) (fun c1 => absurd (show x0 = (-1 : Int32) from Int32.toInt_inj.mp (show x0.toInt = (-1 : Int) by omega)) c1) (fun c1 => ?_)
  refine lv_aload_n hx hb dX16_said_5 rfl (lv_at hl 0 rfl) ?_
  have hP9 := hP.sub (ws' := []) [] rfl
  have hD9 := hD.sub (ws' := []) [] (by decide) rfl
  have hK9 := hK.sub (tys' := []) [] rfl
  refine W.widen (k := 0) (n := 0) (Nat.le_of_ble_eq_true rfl) (Nat.le_of_ble_eq_true rfl) ?_
  exact W.aret (v := .ref (g 34)) hx hb hr (by first | exact Or.inl ⟨_, rfl⟩ | exact Or.inr ⟨_, rfl⟩) (Or.inr ⟨_, rfl⟩) (fun t ht hW => ⟨⟨(), _, rfl, trivial, rfl, by rw [ht]; exact hP9, va_K.moved hW.alike hK9, hD9⟩, hS.F ht⟩) hS.2.2 dX16_said_6
set_option maxHeartbeats 4000000 in
set_option maxRecDepth 100000 in
theorem kX4_size (l : Launch) (dC : Nat → ClassId) (dI : Nat → Nat → Nat) (g : Nat → Nat) (sz : Nat) (h0 : Nat) (v0 : Value) : Met l yX4_size wbX4_size ({ frames := 0, cells := 0, slots := 0, locals := 0 }) (va_Pc [.ref h0] (fun U => U.heap.size = sz ∧ va_P (dC, dI) vwCl [(h0, .inr (11, [v0, .int 0]))] U.heap ∧ va_K (dC, dI) vwCl [] U ∧ va_D (fun _ => True) [(h0, .inr (11, [v0, .int 0]))] ∧ ns_F g (va_A [(h0, .inr (11, [v0, .int 0]))] sz) U U.heap)) (va_Qi (fun (r : Int32) (_ : Unit) => r = 0) (fun _ t => va_P (dC, dI) vwCl [(h0, .inr (11, [v0, .int 0]))] t.heap ∧ va_K (dC, dI) vwCl [] t ∧ va_D (va_A [(h0, .inr (11, [v0, .int 0]))] sz) [(h0, .inr (11, [v0, .int 0]))]) (va_A [(h0, .inr (11, [v0, .int 0]))] sz)) 0 0 (va_A [(h0, .inr (11, [v0, .int 0]))] sz) := by
  refine Met.ofW (cc := cX4_size) (maxL := 1) (ret := (some .int)) (by decide) rfl ?_
  intro p e s m args below meth c s₁ B hml hv
  obtain ⟨rfl, hsz, hP, hK, hD0, hF⟩ := hv
  have hx := B.exec
  have hb := B.bytes
  have hr := B.returns
  have hts := atoms_spec (ws := wbX4_size) B.pre
  have hta : ∀ w ∈ wsALL, w.before _ s = true := fun w h => hts w (List.mem_cons_of_mem _ h)
  have hown : s.vm.findClass RX4 = some m.cls := findClass_of_methodNamed B.named
  have hlocks := B.notSynchronized
  subst hsz
  have hD := hD0.self (sz := s.heap.size)
  generalize hAe : va_A [(h0, .inr (11, [v0, .int 0]))] s.heap.size = A at hD hF ⊢
  have hA : ∀ q : Nat, s.heap.size ≤ q → A q := fun q h => by rw [← hAe]; exact Or.inr h
  have hS : va_S A s.heap s.heap [] := va_S.rf
  have hP : va_P (dC, dI) vwCl [(h0, .inr (11, [v0, .int 0]))] s.heap := hP
  have hl := lv_entry ([.ref h0]) (n := 1) (Nat.le_of_ble_eq_true rfl)
  rw [lg_entry_eq]
  generalize (lg_sl ([.ref h0]) ++ List.replicate (1 - (lg_sl ([.ref h0])).length) Slot.unset).toArray = ls at hl ⊢
  have hl : lv_has ls 1 [(0, .ref h0)] := hl
  refine lv_aload_n hx hb dX4_size_0 rfl (lv_at hl 0 rfl) ?_
  refine va_get (D := (dC, dI)) (ci := 11) (v := .int 0) (C := RX4) (T := TX4) (N := 2) hx hb hta naX4 hown hK hP 0 rfl rfl 1 (by decide) (hta _ wm14) (fun _ h9 => h9) rfl dX4_size_1 ?_
  have hP9 := hP.sub (ws' := [(h0, .inr (11, [v0, .int 0]))]) [0] rfl
  have hD9 := hD.sub (ws' := [(h0, .inr (11, [v0, .int 0]))]) [0] (by decide) rfl
  have hK9 := hK.sub (tys' := []) [] rfl
  refine W.widen (k := 0) (n := 0) (Nat.le_of_ble_eq_true rfl) (Nat.le_of_ble_eq_true rfl) ?_
  exact W.iret (v := 0) hx hb hr (fun t ht hW => ⟨⟨_, (), rfl, rfl, by rw [ht]; exact hP9, va_K.moved hW.alike hK9, hD9⟩, hS.F ht⟩) hS.2.2 dX4_size_4
set_option maxHeartbeats 4000000 in
set_option maxRecDepth 100000 in
theorem kJ1_newString_b4f7a (l : Launch) (dC : Nat → ClassId) (dI : Nat → Nat → Nat) (g : Nat → Nat) (sz : Nat) (h0 : Nat) : Met l yJ1_newString_b4f7a wbJ1_newString_b4f7a ({ frames := 0, cells := 0, slots := 0, locals := 0 }) (va_Pc [.ref h0, .int 0, .int 0] (fun U => U.heap.size = sz ∧ va_P (dC, dI) vwCl [] U.heap ∧ va_K (dC, dI) vwCl [] U ∧ va_D (fun _ => True) [] ∧ ns_F g (va_A [] sz) U U.heap)) (va_Qr (fun _ : Unit => True) (fun _ r t => r = (g 34) ∧ va_P (dC, dI) vwCl [] t.heap ∧ va_K (dC, dI) vwCl [] t ∧ va_D (va_A [] sz) []) (va_A [] sz)) 0 0 (va_A [] sz) := by
  refine Met.ofW (cc := cJ1_newString_b4f7a) (maxL := 3) (ret := (some (.object "java/lang/String"))) (by decide) rfl ?_
  intro p e s m args below meth c s₁ B hml hv
  obtain ⟨rfl, hsz, hP, hK, hD0, hF⟩ := hv
  have hx := B.exec
  have hb := B.bytes
  have hr := B.returns
  have hts := atoms_spec (ws := wbJ1_newString_b4f7a) B.pre
  have hta : ∀ w ∈ wsALL, w.before _ s = true := fun w h => hts w (List.mem_cons_of_mem _ h)
  have hown : s.vm.findClass RJ1 = some m.cls := findClass_of_methodNamed B.named
  have hlocks := B.notSynchronized
  subst hsz
  have hD := hD0.self (sz := s.heap.size)
  generalize hAe : va_A [] s.heap.size = A at hD hF ⊢
  have hA : ∀ q : Nat, s.heap.size ≤ q → A q := fun q h => by rw [← hAe]; exact Or.inr h
  have hS : va_S A s.heap s.heap [] := va_S.rf
  have hP : va_P (dC, dI) vwCl [] s.heap := hP
  have hl := lv_entry ([.ref h0, .int 0, .int 0]) (n := 3) (Nat.le_of_ble_eq_true rfl)
  rw [lg_entry_eq]
  generalize (lg_sl ([.ref h0, .int 0, .int 0]) ++ List.replicate (3 - (lg_sl ([.ref h0, .int 0, .int 0])).length) Slot.unset).toArray = ls at hl ⊢
  have hl : lv_has ls 3 [(0, .ref h0), (1, .int 0), (2, .int 0)] := hl
  refine lv_iload_n hx hb dJ1_newString_b4f7a_0 rfl (lv_at hl 2 rfl) ?_
  refine lv_if_ne (tgt := 7) hx hb dJ1_newString_b4f7a_1 (by decide) (fun c1 => absurd (by decide) c1) (fun c1 => ?_)
  refine va_ldcS hx hb hown (ns_f37 hF) dJ1_newString_b4f7a_4 ?_
  have hP9 := hP.sub (ws' := []) [] rfl
  have hD9 := hD.sub (ws' := []) [] (by decide) rfl
  have hK9 := hK.sub (tys' := []) [] rfl
  refine W.widen (k := 0) (n := 0) (Nat.le_of_ble_eq_true rfl) (Nat.le_of_ble_eq_true rfl) ?_
  exact W.aret (v := .ref (g 34)) hx hb hr (by first | exact Or.inl ⟨_, rfl⟩ | exact Or.inr ⟨_, rfl⟩) (Or.inr ⟨_, rfl⟩) (fun t ht hW => ⟨⟨(), _, rfl, trivial, rfl, by rw [ht]; exact hP9, va_K.moved hW.alike hK9, hD9⟩, hS.F ht⟩) hS.2.2 dJ1_newString_b4f7a_6
set_option maxHeartbeats 4000000 in
set_option maxRecDepth 100000 in
theorem kJ7_checkLength_df160_10 (l : Launch) (dC : Nat → ClassId) (dI : Nat → Nat → Nat) (g : Nat → Nat) (sz : Nat)  : Met l yJ7_checkLength_df160 wbJ7_checkLength_df160 ({ frames := 0, cells := 0, slots := 0, locals := 0 }) (va_Pc [.int 0, .int 0] (fun U => U.heap.size = sz ∧ va_P (dC, dI) vwCl [] U.heap ∧ va_K (dC, dI) vwCl [] U ∧ va_D (fun _ => True) [] ∧ ns_F g (va_A [] sz) U U.heap)) (va_Qv (fun _ : Unit => True) (fun _ t => va_P (dC, dI) vwCl [] t.heap ∧ va_K (dC, dI) vwCl [] t ∧ va_D (va_A [] sz) []) (va_A [] sz)) 0 0 (va_A [] sz) := by
  refine Met.ofW (cc := cJ7_checkLength_df160) (maxL := 2) (ret := none) (by decide) rfl ?_
  intro p e s m args below meth c s₁ B hml hv
  obtain ⟨rfl, hsz, hP, hK, hD0, hF⟩ := hv
  have hx := B.exec
  have hb := B.bytes
  have hr := B.returns
  have hts := atoms_spec (ws := wbJ7_checkLength_df160) B.pre
  have hta : ∀ w ∈ wsALL, w.before _ s = true := fun w h => hts w (List.mem_cons_of_mem _ h)
  have hown : s.vm.findClass RJ7 = some m.cls := findClass_of_methodNamed B.named
  have hlocks := B.notSynchronized
  subst hsz
  have hD := hD0.self (sz := s.heap.size)
  generalize hAe : va_A [] s.heap.size = A at hD hF ⊢
  have hA : ∀ q : Nat, s.heap.size ≤ q → A q := fun q h => by rw [← hAe]; exact Or.inr h
  have hS : va_S A s.heap s.heap [] := va_S.rf
  have hP : va_P (dC, dI) vwCl [] s.heap := hP
  have hl := lv_entry ([.int 0, .int 0]) (n := 2) (Nat.le_of_ble_eq_true rfl)
  rw [lg_entry_eq]
  generalize (lg_sl ([.int 0, .int 0]) ++ List.replicate (2 - (lg_sl ([.int 0, .int 0])).length) Slot.unset).toArray = ls at hl ⊢
  have hl : lv_has ls 2 [(0, .int 0), (1, .int 0)] := hl
  refine lv_iload_n hx hb dJ7_checkLength_df160_0 rfl (lv_at hl 1 rfl) ?_
  refine lv_iload_n hx hb dJ7_checkLength_df160_1 rfl (lv_at hl 0 rfl) ?_
  refine lv_icmp_ge (tgt := 37) hx hb dJ7_checkLength_df160_2 (by decide) (fun c1 => ?_) (fun c1 => absurd (by decide) c1)
  have hP9 := hP.sub (ws' := []) [] rfl
  have hD9 := hD.sub (ws' := []) [] (by decide) rfl
  have hK9 := hK.sub (tys' := []) [] rfl
  refine W.widen (k := 0) (n := 0) (Nat.le_of_ble_eq_true rfl) (Nat.le_of_ble_eq_true rfl) ?_
  exact W.vret hx hb hr (fun t ht hW => ⟨⟨(), rfl, trivial, by rw [ht]; exact hP9, va_K.moved hW.alike hK9, hD9⟩, hS.F ht⟩) hS.2.2 dJ7_checkLength_df160_37

set_option maxHeartbeats 4000000 in
set_option maxRecDepth 100000 in
theorem kX9_lengthAfter_2 (l : Launch) (dC : Nat → ClassId) (dI : Nat → Nat → Nat) (g : Nat → Nat) (sz : Nat) (x0 : Int32) (x1 : Int32) (ex0 : (0 : Int) ≤ x0.toInt ∧ x0.toInt ≤ (1 : Int)) (ex1 : (-1 : Int) ≤ x1.toInt ∧ x1.toInt ≤ (21 : Int)) : Met l yX9_lengthAfter wbX9_lengthAfter ({ frames := 0, cells := 0, slots := 0, locals := 0 }) (va_Pc [.int x0, .int x1] (fun U => U.heap.size = sz ∧ va_P (dC, dI) vwCl [] U.heap ∧ va_K (dC, dI) vwCl [] U ∧ va_D (fun _ => True) [] ∧ ns_F g (va_A [] sz) U U.heap)) (va_Qi (fun (r : Int32) (_ : Unit) => r = (ns_len x0 x1)) (fun _ t => va_P (dC, dI) vwCl [] t.heap ∧ va_K (dC, dI) vwCl [] t ∧ va_D (va_A [] sz) []) (va_A [] sz)) 0 0 (va_A [] sz) := by
  refine Met.ofW (cc := cX9_lengthAfter) (maxL := 2) (ret := (some .int)) (by decide) rfl ?_
  intro p e s m args below meth c s₁ B hml hv
  obtain ⟨rfl, hsz, hP, hK, hD0, hF⟩ := hv
  have hx := B.exec
  have hb := B.bytes
  have hr := B.returns
  have hts := atoms_spec (ws := wbX9_lengthAfter) B.pre
  have hta : ∀ w ∈ wsALL, w.before _ s = true := fun w h => hts w (List.mem_cons_of_mem _ h)
  have hown : s.vm.findClass RX9 = some m.cls := findClass_of_methodNamed B.named
  have hlocks := B.notSynchronized
  subst hsz
  have hD := hD0.self (sz := s.heap.size)
  generalize hAe : va_A [] s.heap.size = A at hD hF ⊢
  have hA : ∀ q : Nat, s.heap.size ≤ q → A q := fun q h => by rw [← hAe]; exact Or.inr h
  have hS : va_S A s.heap s.heap [] := va_S.rf
  have hP : va_P (dC, dI) vwCl [] s.heap := hP
  have hl := lv_entry ([.int x0, .int x1]) (n := 2) (Nat.le_of_ble_eq_true rfl)
  rw [lg_entry_eq]
  generalize (lg_sl ([.int x0, .int x1]) ++ List.replicate (2 - (lg_sl ([.int x0, .int x1])).length) Slot.unset).toArray = ls at hl ⊢
  have hl : lv_has ls 2 [(0, .int x0), (1, .int x1)] := hl
  refine lv_iload_n hx hb dX9_lengthAfter_0 rfl (lv_at hl 1 rfl) ?_
  refine lv_iconst (v := (-1)) hx hb dX9_lengthAfter_1 (by decide) ?_
  refine lv_icmp_ne (tgt := 7) hx hb dX9_lengthAfter_2 (by decide) (fun c1 => ?_) (fun c1 => ?_)
  · have ec1 : ¬ x1.toInt = (-1 : Int) := fun z => c1 (Int32.toInt_inj.mp z)
    refine lv_iload_n hx hb dX9_lengthAfter_7 rfl (lv_at hl 1 rfl) ?_
    refine lv_bipush (v := 21) hx hb dX9_lengthAfter_8 (by decide) ?_
    refine lv_icmp_ne (tgt := 15) hx hb dX9_lengthAfter_10 (by decide) (fun c2 => ?_) (fun c2 => ?_)
    · have ec2 : ¬ x1.toInt = (21 : Int) := fun z => c2 (Int32.toInt_inj.mp z)
      refine lv_iload_n hx hb dX9_lengthAfter_15 rfl (lv_at hl 1 rfl) ?_
      refine lv_bipush (v := 20) hx hb dX9_lengthAfter_16 (by decide) ?_
      refine lv_icmp_ne (tgt := 33) hx hb dX9_lengthAfter_18 (by decide) (fun c3 => ?_) (fun c3 => ?_)
      · have ec3 : ¬ x1.toInt = (20 : Int) := fun z => c3 (Int32.toInt_inj.mp z)
        refine lv_iload_n hx hb dX9_lengthAfter_33 rfl (lv_at hl 0 rfl) ?_
        refine lv_iconst (v := 1) hx hb dX9_lengthAfter_34 (by decide) ?_
        refine lv_iadd hx hb dX9_lengthAfter_35 ?_
        have r4 : (x0 + 1).toInt = x0.toInt + (1 : Int) := fb_addI (show (-2147483648 : Int) ≤ x0.toInt + (1 : Int) by omega) (show x0.toInt + (1 : Int) < (2147483648 : Int) by omega)
        have hP9 := hP.sub (ws' := []) [] rfl
        have hD9 := hD.sub (ws' := []) [] (by decide) rfl
        have hK9 := hK.sub (tys' := []) [] rfl
        refine W.widen (k := 0) (n := 0) (Nat.le_of_ble_eq_true rfl) (Nat.le_of_ble_eq_true rfl) ?_
        have hz9 : (x0 + 1) = (ns_len x0 x1) := (by unfold ns_len; (repeat' split) <;> first | rfl | (exfalso; omega))
        exact W.iret (v := (x0 + 1)) hx hb hr (fun t ht hW => ⟨⟨_, (), rfl, hz9, by rw [ht]; exact hP9, va_K.moved hW.alike hK9, hD9⟩, hS.F ht⟩) hS.2.2 dX9_lengthAfter_36
      · have ec3 : x1.toInt = (20 : Int) := congrArg Int32.toInt c3
        refine lv_iload_n hx hb dX9_lengthAfter_21 rfl (lv_at hl 0 rfl) ?_
        refine lv_if_le (tgt := 31) hx hb dX9_lengthAfter_22 (by decide) (fun c5 => ?_) (fun c5 => ?_)
        · have ec5 : x0.toInt ≤ (0 : Int) := Int32.le_iff_toInt_le.mp c5
          refine lv_iconst (v := 0) hx hb dX9_lengthAfter_31 (by decide) ?_
          have hP9 := hP.sub (ws' := []) [] rfl
          have hD9 := hD.sub (ws' := []) [] (by decide) rfl
          have hK9 := hK.sub (tys' := []) [] rfl
          refine W.widen (k := 0) (n := 0) (Nat.le_of_ble_eq_true rfl) (Nat.le_of_ble_eq_true rfl) ?_
          have hz9 : 0 = (ns_len x0 x1) := (by unfold ns_len; (repeat' split) <;> first | rfl | (exfalso; omega))
          exact W.iret (v := 0) hx hb hr (fun t ht hW => ⟨⟨_, (), rfl, hz9, by rw [ht]; exact hP9, va_K.moved hW.alike hK9, hD9⟩, hS.F ht⟩) hS.2.2 dX9_lengthAfter_32
        · have ec5 : ¬ x0.toInt ≤ (0 : Int) := fun z => c5 (Int32.le_iff_toInt_le.mpr z)
          refine lv_iload_n hx hb dX9_lengthAfter_25 rfl (lv_at hl 0 rfl) ?_
          refine lv_iconst (v := 1) hx hb dX9_lengthAfter_26 (by decide) ?_
          refine lv_isub hx hb dX9_lengthAfter_27 ?_
          have r6 : (x0 - 1).toInt = x0.toInt - (1 : Int) := fb_subI (show (-2147483648 : Int) ≤ x0.toInt - (1 : Int) by omega) (show x0.toInt - (1 : Int) < (2147483648 : Int) by omega)
          refine lv_goto (tgt := 32) hx hb dX9_lengthAfter_28 (by decide) ?_
          have hP9 := hP.sub (ws' := []) [] rfl
          have hD9 := hD.sub (ws' := []) [] (by decide) rfl
          have hK9 := hK.sub (tys' := []) [] rfl
          refine W.widen (k := 0) (n := 0) (Nat.le_of_ble_eq_true rfl) (Nat.le_of_ble_eq_true rfl) ?_
          have hz9 : (x0 - 1) = (ns_len x0 x1) := (by unfold ns_len; (repeat' split) <;> first | rfl | (exfalso; omega))
          exact W.iret (v := (x0 - 1)) hx hb hr (fun t ht hW => ⟨⟨_, (), rfl, hz9, by rw [ht]; exact hP9, va_K.moved hW.alike hK9, hD9⟩, hS.F ht⟩) hS.2.2 dX9_lengthAfter_32
    · have ec2 : x1.toInt = (21 : Int) := congrArg Int32.toInt c2
      refine lv_iconst (v := 0) hx hb dX9_lengthAfter_13 (by decide) ?_
      have hP9 := hP.sub (ws' := []) [] rfl
      have hD9 := hD.sub (ws' := []) [] (by decide) rfl
      have hK9 := hK.sub (tys' := []) [] rfl
      refine W.widen (k := 0) (n := 0) (Nat.le_of_ble_eq_true rfl) (Nat.le_of_ble_eq_true rfl) ?_
      have hz9 : 0 = (ns_len x0 x1) := (by unfold ns_len; (repeat' split) <;> first | rfl | (exfalso; omega))
      exact W.iret (v := 0) hx hb hr (fun t ht hW => ⟨⟨_, (), rfl, hz9, by rw [ht]; exact hP9, va_K.moved hW.alike hK9, hD9⟩, hS.F ht⟩) hS.2.2 dX9_lengthAfter_14
  · have ec1 : x1.toInt = (-1 : Int) := congrArg Int32.toInt c1
    refine lv_iload_n hx hb dX9_lengthAfter_5 rfl (lv_at hl 0 rfl) ?_
    have hP9 := hP.sub (ws' := []) [] rfl
    have hD9 := hD.sub (ws' := []) [] (by decide) rfl
    have hK9 := hK.sub (tys' := []) [] rfl
    refine W.widen (k := 0) (n := 0) (Nat.le_of_ble_eq_true rfl) (Nat.le_of_ble_eq_true rfl) ?_
    have hz9 : x0 = (ns_len x0 x1) := (by unfold ns_len; (repeat' split) <;> first | rfl | (exfalso; omega))
    exact W.iret (v := x0) hx hb hr (fun t ht hW => ⟨⟨_, (), rfl, hz9, by rw [ht]; exact hP9, va_K.moved hW.alike hK9, hD9⟩, hS.F ht⟩) hS.2.2 dX9_lengthAfter_6
set_option maxHeartbeats 4000000 in
set_option maxRecDepth 100000 in
theorem kX4_add_44 (l : Launch) (dC : Nat → ClassId) (dI : Nat → Nat → Nat) (g : Nat → Nat) (sz : Nat) (h0 : Nat) (x0 : Int32) (h1 : Nat) (x1 : Int32) (cc0 : ClassId) (f0 : Nat → Int32) (ex0 : (0 : Int) ≤ x0.toInt ∧ x0.toInt ≤ (127 : Int)) (ex1 : (0 : Int) ≤ x1.toInt ∧ x1.toInt ≤ (5 : Int)) : Met l yX4_add wbX4_add ({ frames := 0, cells := 0, slots := 0, locals := 0 }) (va_Pc [.ref h0, .int x0] (fun U => U.heap.size = sz ∧ va_P (dC, dI) vwCl [(h0, .inr (11, [.ref h1, .int x1])), (h1, .inl (cc0, 60, .inl f0))] U.heap ∧ va_K (dC, dI) vwCl [(cc0, .int)] U ∧ va_D (fun _ => True) [(h0, .inr (11, [.ref h1, .int x1])), (h1, .inl (cc0, 60, .inl f0))] ∧ ns_F g (va_A [(h0, .inr (11, [.ref h1, .int x1])), (h1, .inl (cc0, 60, .inl f0))] sz) U U.heap)) (va_Qv (fun _ : Unit => True) (fun _ t => va_P (dC, dI) vwCl [(h0, .inr (11, [.ref h1, .int (x1 + 1)])), (h1, .inl (cc0, 60, .inl (upd (f0) x1.toNatClampNeg x0)))] t.heap ∧ va_K (dC, dI) vwCl [(cc0, .int)] t ∧ va_D (va_A [(h0, .inr (11, [.ref h1, .int x1])), (h1, .inl (cc0, 60, .inl f0))] sz) [(h0, .inr (11, [.ref h1, .int (x1 + 1)])), (h1, .inl (cc0, 60, .inl (upd (f0) x1.toNatClampNeg x0)))]) (va_A [(h0, .inr (11, [.ref h1, .int x1])), (h1, .inl (cc0, 60, .inl f0))] sz)) 0 0 (va_A [(h0, .inr (11, [.ref h1, .int x1])), (h1, .inl (cc0, 60, .inl f0))] sz) := by
  refine Met.ofW (cc := cX4_add) (maxL := 2) (ret := none) (by decide) rfl ?_
  intro p e s m args below meth c s₁ B hml hv
  obtain ⟨rfl, hsz, hP, hK, hD0, hF⟩ := hv
  have hx := B.exec
  have hb := B.bytes
  have hr := B.returns
  have hts := atoms_spec (ws := wbX4_add) B.pre
  have hta : ∀ w ∈ wsALL, w.before _ s = true := fun w h => hts w (List.mem_cons_of_mem _ h)
  have hown : s.vm.findClass RX4 = some m.cls := findClass_of_methodNamed B.named
  have hlocks := B.notSynchronized
  subst hsz
  have hD := hD0.self (sz := s.heap.size)
  generalize hAe : va_A [(h0, .inr (11, [.ref h1, .int x1])), (h1, .inl (cc0, 60, .inl f0))] s.heap.size = A at hD hF ⊢
  have hA : ∀ q : Nat, s.heap.size ≤ q → A q := fun q h => by rw [← hAe]; exact Or.inr h
  have hS : va_S A s.heap s.heap [] := va_S.rf
  have hP : va_P (dC, dI) vwCl [(h0, .inr (11, [.ref h1, .int x1])), (h1, .inl (cc0, 60, .inl f0))] s.heap := hP
  have hl := lv_entry ([.ref h0, .int x0]) (n := 2) (Nat.le_of_ble_eq_true rfl)
  rw [lg_entry_eq]
  generalize (lg_sl ([.ref h0, .int x0]) ++ List.replicate (2 - (lg_sl ([.ref h0, .int x0])).length) Slot.unset).toArray = ls at hl ⊢
  have hl : lv_has ls 2 [(0, .ref h0), (1, .int x0)] := hl
  refine lv_aload_n hx hb dX4_add_0 rfl (lv_at hl 0 rfl) ?_
  refine va_get (D := (dC, dI)) (ci := 11) (v := .int x1) (C := RX4) (T := TX4) (N := 2) hx hb hta naX4 hown hK hP 0 rfl rfl 1 (by decide) (hta _ wm14) (fun _ h9 => h9) rfl dX4_add_1 ?_
  refine lv_if_lt (tgt := 39) hx hb dX4_add_4 (by decide) (fun c1 => absurd c1 (fun z => absurd (show x1.toInt < (0 : Int) from Int32.lt_iff_toInt_lt.mp z) (by omega))) (fun c1 => ?_)
  refine lv_aload_n hx hb dX4_add_7 rfl (lv_at hl 0 rfl) ?_
  refine va_get (D := (dC, dI)) (ci := 11) (v := .int x1) (C := RX4) (T := TX4) (N := 2) hx hb hta naX4 hown hK hP 0 rfl rfl 1 (by decide) (hta _ wm14) (fun _ h9 => h9) rfl dX4_add_8 ?_
  refine lv_aload_n hx hb dX4_add_11 rfl (lv_at hl 0 rfl) ?_
  refine va_get (D := (dC, dI)) (ci := 11) (v := .ref h1) (C := RX4) (T := TX4) (N := 2) hx hb hta naX4 hown hK hP 0 rfl rfl 0 (by decide) (hta _ wm16) (fun _ h9 => h9) rfl dX4_add_12 ?_
  refine va_alen (v := 60) hx hb hK hP 1 0 rfl rfl (show Int32.ofNat 60 = 60 by decide) dX4_add_15 ?_
  refine lv_icmp_ge (tgt := 39) hx hb dX4_add_16 (by decide) (fun c2 => absurd c2 (fun z => absurd (show (60 : Int) ≤ x1.toInt from Int32.le_iff_toInt_le.mp z) (by omega))) (fun c2 => ?_)
  refine lv_aload_n hx hb dX4_add_19 rfl (lv_at hl 0 rfl) ?_
  refine va_get (D := (dC, dI)) (ci := 11) (v := .ref h1) (C := RX4) (T := TX4) (N := 2) hx hb hta naX4 hown hK hP 0 rfl rfl 0 (by decide) (hta _ wm16) (fun _ h9 => h9) rfl dX4_add_20 ?_
  refine lv_aload_n hx hb dX4_add_23 rfl (lv_at hl 0 rfl) ?_
  refine va_get (D := (dC, dI)) (ci := 11) (v := .int x1) (C := RX4) (T := TX4) (N := 2) hx hb hta naX4 hown hK hP 0 rfl rfl 1 (by decide) (hta _ wm14) (fun _ h9 => h9) rfl dX4_add_24 ?_
  refine lv_iload_n hx hb dX4_add_27 rfl (lv_at hl 1 rfl) ?_
  refine va_iast hx hb hK hP hD hS 1 0 rfl rfl (vp_in_iff.mpr ⟨show (0 : Int) ≤ x1.toInt by omega, show x1.toInt < ((60 : Nat) : Int) by omega⟩) dX4_add_28 (fun H locs hP hD hS => ?_)
  have hP : va_P (dC, dI) vwCl [(h0, .inr (11, [.ref h1, .int x1])), (h1, .inl (cc0, 60, .inl (upd (f0) x1.toNatClampNeg x0)))] H := hP
  have hD : va_D A [(h0, .inr (11, [.ref h1, .int x1])), (h1, .inl (cc0, 60, .inl (upd (f0) x1.toNatClampNeg x0)))] := hD
  refine lv_aload_n hx hb dX4_add_29 rfl (lv_at hl 0 rfl) ?_
  refine lv_dup hx hb dX4_add_30 rfl ?_
  refine va_get (D := (dC, dI)) (ci := 11) (v := .int x1) (C := RX4) (T := TX4) (N := 2) hx hb hta naX4 hown hK hP 0 rfl rfl 1 (by decide) (hta _ wm14) (fun _ h9 => h9) rfl dX4_add_31 ?_
  refine lv_iconst (v := 1) hx hb dX4_add_34 (by decide) ?_
  refine lv_iadd hx hb dX4_add_35 ?_
  have r3 : (x1 + 1).toInt = x1.toInt + (1 : Int) := fb_addI (show (-2147483648 : Int) ≤ x1.toInt + (1 : Int) by omega) (show x1.toInt + (1 : Int) < (2147483648 : Int) by omega)
  refine va_put (D := (dC, dI)) (ci := 11) (v := .int (x1 + 1)) (ty := .int) (C := RX4) (T := TX4) (N := 2) hx hb hta naX4 tyX4 tyX4_ok nmX4 hown hK hP hD hS 0 rfl rfl 1 (by decide) (hta _ wm14) (fun _ h9 => h9) rfl (by decide +kernel) rfl rfl (Nat.le_of_ble_eq_true rfl) dX4_add_36 (fun H locs hP hD hS => ?_)
  have hP : va_P (dC, dI) vwCl [(h0, .inr (11, [.ref h1, .int (x1 + 1)])), (h1, .inl (cc0, 60, .inl (upd (f0) x1.toNatClampNeg x0)))] H := hP
  have hD : va_D A [(h0, .inr (11, [.ref h1, .int (x1 + 1)])), (h1, .inl (cc0, 60, .inl (upd (f0) x1.toNatClampNeg x0)))] := hD
  have hP9 := hP.sub (ws' := [(h0, .inr (11, [.ref h1, .int (x1 + 1)])), (h1, .inl (cc0, 60, .inl (upd (f0) x1.toNatClampNeg x0)))]) [0, 1] rfl
  have hD9 := hD.sub (ws' := [(h0, .inr (11, [.ref h1, .int (x1 + 1)])), (h1, .inl (cc0, 60, .inl (upd (f0) x1.toNatClampNeg x0)))]) [0, 1] (by decide) rfl
  have hK9 := hK.sub (tys' := [(cc0, .int)]) [0] rfl
  refine W.widen (k := 0) (n := 0) (Nat.le_of_ble_eq_true rfl) (Nat.le_of_ble_eq_true rfl) ?_
  exact W.vret hx hb hr (fun t ht hW => ⟨⟨(), rfl, trivial, by rw [ht]; exact hP9, va_K.moved hW.alike hK9, hD9⟩, hS.F ht⟩) hS.2.2 dX4_add_39
set_option maxHeartbeats 4000000 in
set_option maxRecDepth 100000 in
theorem kX4_add_35 (l : Launch) (dC : Nat → ClassId) (dI : Nat → Nat → Nat) (g : Nat → Nat) (sz : Nat) (h0 : Nat) (x0 : Int32) (h1 : Nat) (cc0 : ClassId) (f0 : Nat → Int32) (ex0 : (-2147483648 : Int) ≤ x0.toInt ∧ x0.toInt ≤ (-2 : Int)) : Met l yX4_add wbX4_add ({ frames := 0, cells := 0, slots := 0, locals := 0 }) (va_Pc [.ref h0, .int x0] (fun U => U.heap.size = sz ∧ va_P (dC, dI) vwCl [(h0, .inr (11, [.ref h1, .int 4])), (h1, .inl (cc0, 6, .inl f0))] U.heap ∧ va_K (dC, dI) vwCl [(cc0, .int)] U ∧ va_D (fun _ => True) [(h0, .inr (11, [.ref h1, .int 4])), (h1, .inl (cc0, 6, .inl f0))] ∧ ns_F g (va_A [(h0, .inr (11, [.ref h1, .int 4])), (h1, .inl (cc0, 6, .inl f0))] sz) U U.heap)) (va_Qv (fun _ : Unit => True) (fun _ t => va_P (dC, dI) vwCl [(h0, .inr (11, [.ref h1, .int 5])), (h1, .inl (cc0, 6, .inl (upd (f0) 4 x0)))] t.heap ∧ va_K (dC, dI) vwCl [(cc0, .int)] t ∧ va_D (va_A [(h0, .inr (11, [.ref h1, .int 4])), (h1, .inl (cc0, 6, .inl f0))] sz) [(h0, .inr (11, [.ref h1, .int 5])), (h1, .inl (cc0, 6, .inl (upd (f0) 4 x0)))]) (va_A [(h0, .inr (11, [.ref h1, .int 4])), (h1, .inl (cc0, 6, .inl f0))] sz)) 0 0 (va_A [(h0, .inr (11, [.ref h1, .int 4])), (h1, .inl (cc0, 6, .inl f0))] sz) := by
  refine Met.ofW (cc := cX4_add) (maxL := 2) (ret := none) (by decide) rfl ?_
  intro p e s m args below meth c s₁ B hml hv
  obtain ⟨rfl, hsz, hP, hK, hD0, hF⟩ := hv
  have hx := B.exec
  have hb := B.bytes
  have hr := B.returns
  have hts := atoms_spec (ws := wbX4_add) B.pre
  have hta : ∀ w ∈ wsALL, w.before _ s = true := fun w h => hts w (List.mem_cons_of_mem _ h)
  have hown : s.vm.findClass RX4 = some m.cls := findClass_of_methodNamed B.named
  have hlocks := B.notSynchronized
  subst hsz
  have hD := hD0.self (sz := s.heap.size)
  generalize hAe : va_A [(h0, .inr (11, [.ref h1, .int 4])), (h1, .inl (cc0, 6, .inl f0))] s.heap.size = A at hD hF ⊢
  have hA : ∀ q : Nat, s.heap.size ≤ q → A q := fun q h => by rw [← hAe]; exact Or.inr h
  have hS : va_S A s.heap s.heap [] := va_S.rf
  have hP : va_P (dC, dI) vwCl [(h0, .inr (11, [.ref h1, .int 4])), (h1, .inl (cc0, 6, .inl f0))] s.heap := hP
  have hl := lv_entry ([.ref h0, .int x0]) (n := 2) (Nat.le_of_ble_eq_true rfl)
  rw [lg_entry_eq]
  generalize (lg_sl ([.ref h0, .int x0]) ++ List.replicate (2 - (lg_sl ([.ref h0, .int x0])).length) Slot.unset).toArray = ls at hl ⊢
  have hl : lv_has ls 2 [(0, .ref h0), (1, .int x0)] := hl
  refine lv_aload_n hx hb dX4_add_0 rfl (lv_at hl 0 rfl) ?_
  refine va_get (D := (dC, dI)) (ci := 11) (v := .int 4) (C := RX4) (T := TX4) (N := 2) hx hb hta naX4 hown hK hP 0 rfl rfl 1 (by decide) (hta _ wm14) (fun _ h9 => h9) rfl dX4_add_1 ?_
  refine lv_if_lt (tgt := 39) hx hb dX4_add_4 (by decide) (fun c1 => absurd c1 (by decide)) (fun c1 => ?_)
  refine lv_aload_n hx hb dX4_add_7 rfl (lv_at hl 0 rfl) ?_
  refine va_get (D := (dC, dI)) (ci := 11) (v := .int 4) (C := RX4) (T := TX4) (N := 2) hx hb hta naX4 hown hK hP 0 rfl rfl 1 (by decide) (hta _ wm14) (fun _ h9 => h9) rfl dX4_add_8 ?_
  refine lv_aload_n hx hb dX4_add_11 rfl (lv_at hl 0 rfl) ?_
  refine va_get (D := (dC, dI)) (ci := 11) (v := .ref h1) (C := RX4) (T := TX4) (N := 2) hx hb hta naX4 hown hK hP 0 rfl rfl 0 (by decide) (hta _ wm16) (fun _ h9 => h9) rfl dX4_add_12 ?_
  refine va_alen (v := 6) hx hb hK hP 1 0 rfl rfl (show Int32.ofNat 6 = 6 by decide) dX4_add_15 ?_
  refine lv_icmp_ge (tgt := 39) hx hb dX4_add_16 (by decide) (fun c2 => absurd c2 (by decide)) (fun c2 => ?_)
  refine lv_aload_n hx hb dX4_add_19 rfl (lv_at hl 0 rfl) ?_
  refine va_get (D := (dC, dI)) (ci := 11) (v := .ref h1) (C := RX4) (T := TX4) (N := 2) hx hb hta naX4 hown hK hP 0 rfl rfl 0 (by decide) (hta _ wm16) (fun _ h9 => h9) rfl dX4_add_20 ?_
  refine lv_aload_n hx hb dX4_add_23 rfl (lv_at hl 0 rfl) ?_
  refine va_get (D := (dC, dI)) (ci := 11) (v := .int 4) (C := RX4) (T := TX4) (N := 2) hx hb hta naX4 hown hK hP 0 rfl rfl 1 (by decide) (hta _ wm14) (fun _ h9 => h9) rfl dX4_add_24 ?_
  refine lv_iload_n hx hb dX4_add_27 rfl (lv_at hl 1 rfl) ?_
  refine va_iast hx hb hK hP hD hS 1 0 rfl rfl (vp_in_nI (n := 4) (by decide) (by decide)) dX4_add_28 (fun H locs hP hD hS => ?_)
  have hP : va_P (dC, dI) vwCl [(h0, .inr (11, [.ref h1, .int 4])), (h1, .inl (cc0, 6, .inl (upd (f0) 4 x0)))] H := hP
  have hD : va_D A [(h0, .inr (11, [.ref h1, .int 4])), (h1, .inl (cc0, 6, .inl (upd (f0) 4 x0)))] := hD
  refine lv_aload_n hx hb dX4_add_29 rfl (lv_at hl 0 rfl) ?_
  refine lv_dup hx hb dX4_add_30 rfl ?_
  refine va_get (D := (dC, dI)) (ci := 11) (v := .int 4) (C := RX4) (T := TX4) (N := 2) hx hb hta naX4 hown hK hP 0 rfl rfl 1 (by decide) (hta _ wm14) (fun _ h9 => h9) rfl dX4_add_31 ?_
  refine lv_iconst (v := 1) hx hb dX4_add_34 (by decide) ?_
  refine lv_iadd hx hb dX4_add_35 ?_
  refine lv_topi (fun y3 ey3 => ?_)
  obtain rfl : y3 = 5 := ey3.trans (by decide)
  refine va_put (D := (dC, dI)) (ci := 11) (v := .int 5) (ty := .int) (C := RX4) (T := TX4) (N := 2) hx hb hta naX4 tyX4 tyX4_ok nmX4 hown hK hP hD hS 0 rfl rfl 1 (by decide) (hta _ wm14) (fun _ h9 => h9) rfl (by decide +kernel) rfl rfl (Nat.le_of_ble_eq_true rfl) dX4_add_36 (fun H locs hP hD hS => ?_)
  have hP : va_P (dC, dI) vwCl [(h0, .inr (11, [.ref h1, .int 5])), (h1, .inl (cc0, 6, .inl (upd (f0) 4 x0)))] H := hP
  have hD : va_D A [(h0, .inr (11, [.ref h1, .int 5])), (h1, .inl (cc0, 6, .inl (upd (f0) 4 x0)))] := hD
  have hP9 := hP.sub (ws' := [(h0, .inr (11, [.ref h1, .int 5])), (h1, .inl (cc0, 6, .inl (upd (f0) 4 x0)))]) [0, 1] rfl
  have hD9 := hD.sub (ws' := [(h0, .inr (11, [.ref h1, .int 5])), (h1, .inl (cc0, 6, .inl (upd (f0) 4 x0)))]) [0, 1] (by decide) rfl
  have hK9 := hK.sub (tys' := [(cc0, .int)]) [0] rfl
  refine W.widen (k := 0) (n := 0) (Nat.le_of_ble_eq_true rfl) (Nat.le_of_ble_eq_true rfl) ?_
  exact W.vret hx hb hr (fun t ht hW => ⟨⟨(), rfl, trivial, by rw [ht]; exact hP9, va_K.moved hW.alike hK9, hD9⟩, hS.F ht⟩) hS.2.2 dX4_add_39
set_option maxHeartbeats 4000000 in
set_option maxRecDepth 100000 in
theorem kX4_add_10 (l : Launch) (dC : Nat → ClassId) (dI : Nat → Nat → Nat) (g : Nat → Nat) (sz : Nat) (h0 : Nat) (h1 : Nat) (cc0 : ClassId) (f0 : Nat → Int32) : Met l yX4_add wbX4_add ({ frames := 0, cells := 0, slots := 0, locals := 0 }) (va_Pc [.ref h0, .int 4] (fun U => U.heap.size = sz ∧ va_P (dC, dI) vwCl [(h0, .inr (11, [.ref h1, .int 0])), (h1, .inl (cc0, 4960, .inl f0))] U.heap ∧ va_K (dC, dI) vwCl [(cc0, .int)] U ∧ va_D (fun _ => True) [(h0, .inr (11, [.ref h1, .int 0])), (h1, .inl (cc0, 4960, .inl f0))] ∧ ns_F g (va_A [(h0, .inr (11, [.ref h1, .int 0])), (h1, .inl (cc0, 4960, .inl f0))] sz) U U.heap)) (va_Qv (fun _ : Unit => True) (fun _ t => va_P (dC, dI) vwCl [(h0, .inr (11, [.ref h1, .int 1])), (h1, .inl (cc0, 4960, .inl (upd (f0) 0 4)))] t.heap ∧ va_K (dC, dI) vwCl [(cc0, .int)] t ∧ va_D (va_A [(h0, .inr (11, [.ref h1, .int 0])), (h1, .inl (cc0, 4960, .inl f0))] sz) [(h0, .inr (11, [.ref h1, .int 1])), (h1, .inl (cc0, 4960, .inl (upd (f0) 0 4)))]) (va_A [(h0, .inr (11, [.ref h1, .int 0])), (h1, .inl (cc0, 4960, .inl f0))] sz)) 0 0 (va_A [(h0, .inr (11, [.ref h1, .int 0])), (h1, .inl (cc0, 4960, .inl f0))] sz) := by
  refine Met.ofW (cc := cX4_add) (maxL := 2) (ret := none) (by decide) rfl ?_
  intro p e s m args below meth c s₁ B hml hv
  obtain ⟨rfl, hsz, hP, hK, hD0, hF⟩ := hv
  have hx := B.exec
  have hb := B.bytes
  have hr := B.returns
  have hts := atoms_spec (ws := wbX4_add) B.pre
  have hta : ∀ w ∈ wsALL, w.before _ s = true := fun w h => hts w (List.mem_cons_of_mem _ h)
  have hown : s.vm.findClass RX4 = some m.cls := findClass_of_methodNamed B.named
  have hlocks := B.notSynchronized
  subst hsz
  have hD := hD0.self (sz := s.heap.size)
  generalize hAe : va_A [(h0, .inr (11, [.ref h1, .int 0])), (h1, .inl (cc0, 4960, .inl f0))] s.heap.size = A at hD hF ⊢
  have hA : ∀ q : Nat, s.heap.size ≤ q → A q := fun q h => by rw [← hAe]; exact Or.inr h
  have hS : va_S A s.heap s.heap [] := va_S.rf
  have hP : va_P (dC, dI) vwCl [(h0, .inr (11, [.ref h1, .int 0])), (h1, .inl (cc0, 4960, .inl f0))] s.heap := hP
  have hl := lv_entry ([.ref h0, .int 4]) (n := 2) (Nat.le_of_ble_eq_true rfl)
  rw [lg_entry_eq]
  generalize (lg_sl ([.ref h0, .int 4]) ++ List.replicate (2 - (lg_sl ([.ref h0, .int 4])).length) Slot.unset).toArray = ls at hl ⊢
  have hl : lv_has ls 2 [(0, .ref h0), (1, .int 4)] := hl
  refine lv_aload_n hx hb dX4_add_0 rfl (lv_at hl 0 rfl) ?_
  refine va_get (D := (dC, dI)) (ci := 11) (v := .int 0) (C := RX4) (T := TX4) (N := 2) hx hb hta naX4 hown hK hP 0 rfl rfl 1 (by decide) (hta _ wm14) (fun _ h9 => h9) rfl dX4_add_1 ?_
  refine lv_if_lt (tgt := 39) hx hb dX4_add_4 (by decide) (fun c1 => absurd c1 (by decide)) (fun c1 => ?_)
  refine lv_aload_n hx hb dX4_add_7 rfl (lv_at hl 0 rfl) ?_
  refine va_get (D := (dC, dI)) (ci := 11) (v := .int 0) (C := RX4) (T := TX4) (N := 2) hx hb hta naX4 hown hK hP 0 rfl rfl 1 (by decide) (hta _ wm14) (fun _ h9 => h9) rfl dX4_add_8 ?_
  refine lv_aload_n hx hb dX4_add_11 rfl (lv_at hl 0 rfl) ?_
  refine va_get (D := (dC, dI)) (ci := 11) (v := .ref h1) (C := RX4) (T := TX4) (N := 2) hx hb hta naX4 hown hK hP 0 rfl rfl 0 (by decide) (hta _ wm16) (fun _ h9 => h9) rfl dX4_add_12 ?_
  refine va_alen (v := 4960) hx hb hK hP 1 0 rfl rfl (show Int32.ofNat 4960 = 4960 by decide) dX4_add_15 ?_
  refine lv_icmp_ge (tgt := 39) hx hb dX4_add_16 (by decide) (fun c2 => absurd c2 (by decide)) (fun c2 => ?_)
  refine lv_aload_n hx hb dX4_add_19 rfl (lv_at hl 0 rfl) ?_
  refine va_get (D := (dC, dI)) (ci := 11) (v := .ref h1) (C := RX4) (T := TX4) (N := 2) hx hb hta naX4 hown hK hP 0 rfl rfl 0 (by decide) (hta _ wm16) (fun _ h9 => h9) rfl dX4_add_20 ?_
  refine lv_aload_n hx hb dX4_add_23 rfl (lv_at hl 0 rfl) ?_
  refine va_get (D := (dC, dI)) (ci := 11) (v := .int 0) (C := RX4) (T := TX4) (N := 2) hx hb hta naX4 hown hK hP 0 rfl rfl 1 (by decide) (hta _ wm14) (fun _ h9 => h9) rfl dX4_add_24 ?_
  refine lv_iload_n hx hb dX4_add_27 rfl (lv_at hl 1 rfl) ?_
  refine va_iast hx hb hK hP hD hS 1 0 rfl rfl (vp_in_nI (n := 0) (by decide) (by decide)) dX4_add_28 (fun H locs hP hD hS => ?_)
  have hP : va_P (dC, dI) vwCl [(h0, .inr (11, [.ref h1, .int 0])), (h1, .inl (cc0, 4960, .inl (upd (f0) 0 4)))] H := hP
  have hD : va_D A [(h0, .inr (11, [.ref h1, .int 0])), (h1, .inl (cc0, 4960, .inl (upd (f0) 0 4)))] := hD
  refine lv_aload_n hx hb dX4_add_29 rfl (lv_at hl 0 rfl) ?_
  refine lv_dup hx hb dX4_add_30 rfl ?_
  refine va_get (D := (dC, dI)) (ci := 11) (v := .int 0) (C := RX4) (T := TX4) (N := 2) hx hb hta naX4 hown hK hP 0 rfl rfl 1 (by decide) (hta _ wm14) (fun _ h9 => h9) rfl dX4_add_31 ?_
  refine lv_iconst (v := 1) hx hb dX4_add_34 (by decide) ?_
  refine lv_iadd hx hb dX4_add_35 ?_
  refine lv_topi (fun y3 ey3 => ?_)
  obtain rfl : y3 = 1 := ey3.trans (by decide)
  refine va_put (D := (dC, dI)) (ci := 11) (v := .int 1) (ty := .int) (C := RX4) (T := TX4) (N := 2) hx hb hta naX4 tyX4 tyX4_ok nmX4 hown hK hP hD hS 0 rfl rfl 1 (by decide) (hta _ wm14) (fun _ h9 => h9) rfl (by decide +kernel) rfl rfl (Nat.le_of_ble_eq_true rfl) dX4_add_36 (fun H locs hP hD hS => ?_)
  have hP : va_P (dC, dI) vwCl [(h0, .inr (11, [.ref h1, .int 1])), (h1, .inl (cc0, 4960, .inl (upd (f0) 0 4)))] H := hP
  have hD : va_D A [(h0, .inr (11, [.ref h1, .int 1])), (h1, .inl (cc0, 4960, .inl (upd (f0) 0 4)))] := hD
  have hP9 := hP.sub (ws' := [(h0, .inr (11, [.ref h1, .int 1])), (h1, .inl (cc0, 4960, .inl (upd (f0) 0 4)))]) [0, 1] rfl
  have hD9 := hD.sub (ws' := [(h0, .inr (11, [.ref h1, .int 1])), (h1, .inl (cc0, 4960, .inl (upd (f0) 0 4)))]) [0, 1] (by decide) rfl
  have hK9 := hK.sub (tys' := [(cc0, .int)]) [0] rfl
  refine W.widen (k := 0) (n := 0) (Nat.le_of_ble_eq_true rfl) (Nat.le_of_ble_eq_true rfl) ?_
  exact W.vret hx hb hr (fun t ht hW => ⟨⟨(), rfl, trivial, by rw [ht]; exact hP9, va_K.moved hW.alike hK9, hD9⟩, hS.F ht⟩) hS.2.2 dX4_add_39
set_option maxHeartbeats 4000000 in
set_option maxRecDepth 100000 in
theorem kX4_add_27 (l : Launch) (dC : Nat → ClassId) (dI : Nat → Nat → Nat) (g : Nat → Nat) (sz : Nat) (h0 : Nat) (x0 : Int32) (h1 : Nat) (cc0 : ClassId) (f0 : Nat → Int32) : Met l yX4_add wbX4_add ({ frames := 0, cells := 0, slots := 0, locals := 0 }) (va_Pc [.ref h0, .int x0] (fun U => U.heap.size = sz ∧ va_P (dC, dI) vwCl [(h0, .inr (11, [.ref h1, .int 5])), (h1, .inl (cc0, 6, .inl f0))] U.heap ∧ va_K (dC, dI) vwCl [(cc0, .int)] U ∧ va_D (fun _ => True) [(h0, .inr (11, [.ref h1, .int 5])), (h1, .inl (cc0, 6, .inl f0))] ∧ ns_F g (va_A [(h0, .inr (11, [.ref h1, .int 5])), (h1, .inl (cc0, 6, .inl f0))] sz) U U.heap)) (va_Qv (fun _ : Unit => True) (fun _ t => va_P (dC, dI) vwCl [(h0, .inr (11, [.ref h1, .int 6])), (h1, .inl (cc0, 6, .inl (upd (f0) 5 x0)))] t.heap ∧ va_K (dC, dI) vwCl [(cc0, .int)] t ∧ va_D (va_A [(h0, .inr (11, [.ref h1, .int 5])), (h1, .inl (cc0, 6, .inl f0))] sz) [(h0, .inr (11, [.ref h1, .int 6])), (h1, .inl (cc0, 6, .inl (upd (f0) 5 x0)))]) (va_A [(h0, .inr (11, [.ref h1, .int 5])), (h1, .inl (cc0, 6, .inl f0))] sz)) 0 0 (va_A [(h0, .inr (11, [.ref h1, .int 5])), (h1, .inl (cc0, 6, .inl f0))] sz) := by
  refine Met.ofW (cc := cX4_add) (maxL := 2) (ret := none) (by decide) rfl ?_
  intro p e s m args below meth c s₁ B hml hv
  obtain ⟨rfl, hsz, hP, hK, hD0, hF⟩ := hv
  have hx := B.exec
  have hb := B.bytes
  have hr := B.returns
  have hts := atoms_spec (ws := wbX4_add) B.pre
  have hta : ∀ w ∈ wsALL, w.before _ s = true := fun w h => hts w (List.mem_cons_of_mem _ h)
  have hown : s.vm.findClass RX4 = some m.cls := findClass_of_methodNamed B.named
  have hlocks := B.notSynchronized
  subst hsz
  have hD := hD0.self (sz := s.heap.size)
  generalize hAe : va_A [(h0, .inr (11, [.ref h1, .int 5])), (h1, .inl (cc0, 6, .inl f0))] s.heap.size = A at hD hF ⊢
  have hA : ∀ q : Nat, s.heap.size ≤ q → A q := fun q h => by rw [← hAe]; exact Or.inr h
  have hS : va_S A s.heap s.heap [] := va_S.rf
  have hP : va_P (dC, dI) vwCl [(h0, .inr (11, [.ref h1, .int 5])), (h1, .inl (cc0, 6, .inl f0))] s.heap := hP
  have hl := lv_entry ([.ref h0, .int x0]) (n := 2) (Nat.le_of_ble_eq_true rfl)
  rw [lg_entry_eq]
  generalize (lg_sl ([.ref h0, .int x0]) ++ List.replicate (2 - (lg_sl ([.ref h0, .int x0])).length) Slot.unset).toArray = ls at hl ⊢
  have hl : lv_has ls 2 [(0, .ref h0), (1, .int x0)] := hl
  refine lv_aload_n hx hb dX4_add_0 rfl (lv_at hl 0 rfl) ?_
  refine va_get (D := (dC, dI)) (ci := 11) (v := .int 5) (C := RX4) (T := TX4) (N := 2) hx hb hta naX4 hown hK hP 0 rfl rfl 1 (by decide) (hta _ wm14) (fun _ h9 => h9) rfl dX4_add_1 ?_
  refine lv_if_lt (tgt := 39) hx hb dX4_add_4 (by decide) (fun c1 => absurd c1 (by decide)) (fun c1 => ?_)
  refine lv_aload_n hx hb dX4_add_7 rfl (lv_at hl 0 rfl) ?_
  refine va_get (D := (dC, dI)) (ci := 11) (v := .int 5) (C := RX4) (T := TX4) (N := 2) hx hb hta naX4 hown hK hP 0 rfl rfl 1 (by decide) (hta _ wm14) (fun _ h9 => h9) rfl dX4_add_8 ?_
  refine lv_aload_n hx hb dX4_add_11 rfl (lv_at hl 0 rfl) ?_
  refine va_get (D := (dC, dI)) (ci := 11) (v := .ref h1) (C := RX4) (T := TX4) (N := 2) hx hb hta naX4 hown hK hP 0 rfl rfl 0 (by decide) (hta _ wm16) (fun _ h9 => h9) rfl dX4_add_12 ?_
  refine va_alen (v := 6) hx hb hK hP 1 0 rfl rfl (show Int32.ofNat 6 = 6 by decide) dX4_add_15 ?_
  refine lv_icmp_ge (tgt := 39) hx hb dX4_add_16 (by decide) (fun c2 => absurd c2 (by decide)) (fun c2 => ?_)
  refine lv_aload_n hx hb dX4_add_19 rfl (lv_at hl 0 rfl) ?_
  refine va_get (D := (dC, dI)) (ci := 11) (v := .ref h1) (C := RX4) (T := TX4) (N := 2) hx hb hta naX4 hown hK hP 0 rfl rfl 0 (by decide) (hta _ wm16) (fun _ h9 => h9) rfl dX4_add_20 ?_
  refine lv_aload_n hx hb dX4_add_23 rfl (lv_at hl 0 rfl) ?_
  refine va_get (D := (dC, dI)) (ci := 11) (v := .int 5) (C := RX4) (T := TX4) (N := 2) hx hb hta naX4 hown hK hP 0 rfl rfl 1 (by decide) (hta _ wm14) (fun _ h9 => h9) rfl dX4_add_24 ?_
  refine lv_iload_n hx hb dX4_add_27 rfl (lv_at hl 1 rfl) ?_
  refine va_iast hx hb hK hP hD hS 1 0 rfl rfl (vp_in_nI (n := 5) (by decide) (by decide)) dX4_add_28 (fun H locs hP hD hS => ?_)
  have hP : va_P (dC, dI) vwCl [(h0, .inr (11, [.ref h1, .int 5])), (h1, .inl (cc0, 6, .inl (upd (f0) 5 x0)))] H := hP
  have hD : va_D A [(h0, .inr (11, [.ref h1, .int 5])), (h1, .inl (cc0, 6, .inl (upd (f0) 5 x0)))] := hD
  refine lv_aload_n hx hb dX4_add_29 rfl (lv_at hl 0 rfl) ?_
  refine lv_dup hx hb dX4_add_30 rfl ?_
  refine va_get (D := (dC, dI)) (ci := 11) (v := .int 5) (C := RX4) (T := TX4) (N := 2) hx hb hta naX4 hown hK hP 0 rfl rfl 1 (by decide) (hta _ wm14) (fun _ h9 => h9) rfl dX4_add_31 ?_
  refine lv_iconst (v := 1) hx hb dX4_add_34 (by decide) ?_
  refine lv_iadd hx hb dX4_add_35 ?_
  refine lv_topi (fun y3 ey3 => ?_)
  obtain rfl : y3 = 6 := ey3.trans (by decide)
  refine va_put (D := (dC, dI)) (ci := 11) (v := .int 6) (ty := .int) (C := RX4) (T := TX4) (N := 2) hx hb hta naX4 tyX4 tyX4_ok nmX4 hown hK hP hD hS 0 rfl rfl 1 (by decide) (hta _ wm14) (fun _ h9 => h9) rfl (by decide +kernel) rfl rfl (Nat.le_of_ble_eq_true rfl) dX4_add_36 (fun H locs hP hD hS => ?_)
  have hP : va_P (dC, dI) vwCl [(h0, .inr (11, [.ref h1, .int 6])), (h1, .inl (cc0, 6, .inl (upd (f0) 5 x0)))] H := hP
  have hD : va_D A [(h0, .inr (11, [.ref h1, .int 6])), (h1, .inl (cc0, 6, .inl (upd (f0) 5 x0)))] := hD
  have hP9 := hP.sub (ws' := [(h0, .inr (11, [.ref h1, .int 6])), (h1, .inl (cc0, 6, .inl (upd (f0) 5 x0)))]) [0, 1] rfl
  have hD9 := hD.sub (ws' := [(h0, .inr (11, [.ref h1, .int 6])), (h1, .inl (cc0, 6, .inl (upd (f0) 5 x0)))]) [0, 1] (by decide) rfl
  have hK9 := hK.sub (tys' := [(cc0, .int)]) [0] rfl
  refine W.widen (k := 0) (n := 0) (Nat.le_of_ble_eq_true rfl) (Nat.le_of_ble_eq_true rfl) ?_
  exact W.vret hx hb hr (fun t ht hW => ⟨⟨(), rfl, trivial, by rw [ht]; exact hP9, va_K.moved hW.alike hK9, hD9⟩, hS.F ht⟩) hS.2.2 dX4_add_39
set_option maxHeartbeats 4000000 in
set_option maxRecDepth 100000 in
theorem kX4_get_33 (l : Launch) (dC : Nat → ClassId) (dI : Nat → Nat → Nat) (g : Nat → Nat) (sz : Nat) (h0 : Nat) (h1 : Nat) (cc0 : ClassId) (x0 : Int32) (x1 : Int32) (x2 : Int32) (x3 : Int32) (x4 : Int32) (x5 : Int32) (ex0 : (-1 : Int) ≤ x0.toInt ∧ x0.toInt ≤ (21 : Int)) (ex1 : (-1 : Int) ≤ x1.toInt ∧ x1.toInt ≤ (21 : Int)) (ex2 : (-1 : Int) ≤ x2.toInt ∧ x2.toInt ≤ (21 : Int)) (ex3 : (-1 : Int) ≤ x3.toInt ∧ x3.toInt ≤ (21 : Int)) (ex4 : (-1 : Int) ≤ x4.toInt ∧ x4.toInt ≤ (21 : Int)) (ex5 : (22 : Int) ≤ x5.toInt ∧ x5.toInt ≤ (2147483647 : Int)) : Met l yX4_get wbX4_get ({ frames := 0, cells := 0, slots := 0, locals := 0 }) (va_Pc [.ref h0, .int 5] (fun U => U.heap.size = sz ∧ va_P (dC, dI) vwCl [(h0, .inr (11, [.ref h1, .int 6])), (h1, .inl (cc0, 6, .inl (upd (upd (upd (upd (upd (upd (fun _ => 0) 0 x0) 1 x1) 2 x2) 3 x3) 4 x4) 5 x5)))] U.heap ∧ va_K (dC, dI) vwCl [(cc0, .int)] U ∧ va_D (fun _ => True) [(h0, .inr (11, [.ref h1, .int 6])), (h1, .inl (cc0, 6, .inl (upd (upd (upd (upd (upd (upd (fun _ => 0) 0 x0) 1 x1) 2 x2) 3 x3) 4 x4) 5 x5)))] ∧ ns_F g (va_A [(h0, .inr (11, [.ref h1, .int 6])), (h1, .inl (cc0, 6, .inl (upd (upd (upd (upd (upd (upd (fun _ => 0) 0 x0) 1 x1) 2 x2) 3 x3) 4 x4) 5 x5)))] sz) U U.heap)) (va_Qi (fun (r : Int32) (_ : Unit) => r = x5) (fun _ t => va_P (dC, dI) vwCl [(h0, .inr (11, [.ref h1, .int 6])), (h1, .inl (cc0, 6, .inl (upd (upd (upd (upd (upd (upd (fun _ => 0) 0 x0) 1 x1) 2 x2) 3 x3) 4 x4) 5 x5)))] t.heap ∧ va_K (dC, dI) vwCl [(cc0, .int)] t ∧ va_D (va_A [(h0, .inr (11, [.ref h1, .int 6])), (h1, .inl (cc0, 6, .inl (upd (upd (upd (upd (upd (upd (fun _ => 0) 0 x0) 1 x1) 2 x2) 3 x3) 4 x4) 5 x5)))] sz) [(h0, .inr (11, [.ref h1, .int 6])), (h1, .inl (cc0, 6, .inl (upd (upd (upd (upd (upd (upd (fun _ => 0) 0 x0) 1 x1) 2 x2) 3 x3) 4 x4) 5 x5)))]) (va_A [(h0, .inr (11, [.ref h1, .int 6])), (h1, .inl (cc0, 6, .inl (upd (upd (upd (upd (upd (upd (fun _ => 0) 0 x0) 1 x1) 2 x2) 3 x3) 4 x4) 5 x5)))] sz)) 0 0 (va_A [(h0, .inr (11, [.ref h1, .int 6])), (h1, .inl (cc0, 6, .inl (upd (upd (upd (upd (upd (upd (fun _ => 0) 0 x0) 1 x1) 2 x2) 3 x3) 4 x4) 5 x5)))] sz) := by
  refine Met.ofW (cc := cX4_get) (maxL := 2) (ret := (some .int)) (by decide) rfl ?_
  intro p e s m args below meth c s₁ B hml hv
  obtain ⟨rfl, hsz, hP, hK, hD0, hF⟩ := hv
  have hx := B.exec
  have hb := B.bytes
  have hr := B.returns
  have hts := atoms_spec (ws := wbX4_get) B.pre
  have hta : ∀ w ∈ wsALL, w.before _ s = true := fun w h => hts w (List.mem_cons_of_mem _ h)
  have hown : s.vm.findClass RX4 = some m.cls := findClass_of_methodNamed B.named
  have hlocks := B.notSynchronized
  subst hsz
  have hD := hD0.self (sz := s.heap.size)
  generalize hAe : va_A [(h0, .inr (11, [.ref h1, .int 6])), (h1, .inl (cc0, 6, .inl (upd (upd (upd (upd (upd (upd (fun _ => 0) 0 x0) 1 x1) 2 x2) 3 x3) 4 x4) 5 x5)))] s.heap.size = A at hD hF ⊢
  have hA : ∀ q : Nat, s.heap.size ≤ q → A q := fun q h => by rw [← hAe]; exact Or.inr h
  have hS : va_S A s.heap s.heap [] := va_S.rf
  have hP : va_P (dC, dI) vwCl [(h0, .inr (11, [.ref h1, .int 6])), (h1, .inl (cc0, 6, .inl (upd (upd (upd (upd (upd (upd (fun _ => 0) 0 x0) 1 x1) 2 x2) 3 x3) 4 x4) 5 x5)))] s.heap := hP
  have hl := lv_entry ([.ref h0, .int 5]) (n := 2) (Nat.le_of_ble_eq_true rfl)
  rw [lg_entry_eq]
  generalize (lg_sl ([.ref h0, .int 5]) ++ List.replicate (2 - (lg_sl ([.ref h0, .int 5])).length) Slot.unset).toArray = ls at hl ⊢
  have hl : lv_has ls 2 [(0, .ref h0), (1, .int 5)] := hl
  refine lv_iload_n hx hb dX4_get_0 rfl (lv_at hl 1 rfl) ?_
  refine lv_if_lt (tgt := 30) hx hb dX4_get_1 (by decide) (fun c1 => absurd c1 (by decide)) (fun c1 => ?_)
  refine lv_iload_n hx hb dX4_get_4 rfl (lv_at hl 1 rfl) ?_
  refine lv_aload_n hx hb dX4_get_5 rfl (lv_at hl 0 rfl) ?_
  refine va_get (D := (dC, dI)) (ci := 11) (v := .int 6) (C := RX4) (T := TX4) (N := 2) hx hb hta naX4 hown hK hP 0 rfl rfl 1 (by decide) (hta _ wm14) (fun _ h9 => h9) rfl dX4_get_6 ?_
  refine lv_icmp_ge (tgt := 30) hx hb dX4_get_9 (by decide) (fun c2 => absurd c2 (by decide)) (fun c2 => ?_)
  refine lv_iload_n hx hb dX4_get_12 rfl (lv_at hl 1 rfl) ?_
  refine lv_aload_n hx hb dX4_get_13 rfl (lv_at hl 0 rfl) ?_
  refine va_get (D := (dC, dI)) (ci := 11) (v := .ref h1) (C := RX4) (T := TX4) (N := 2) hx hb hta naX4 hown hK hP 0 rfl rfl 0 (by decide) (hta _ wm16) (fun _ h9 => h9) rfl dX4_get_14 ?_
  refine va_alen (v := 6) hx hb hK hP 1 0 rfl rfl (show Int32.ofNat 6 = 6 by decide) dX4_get_17 ?_
  refine lv_icmp_ge (tgt := 30) hx hb dX4_get_18 (by decide) (fun c3 => absurd c3 (by decide)) (fun c3 => ?_)
  refine lv_aload_n hx hb dX4_get_21 rfl (lv_at hl 0 rfl) ?_
  refine va_get (D := (dC, dI)) (ci := 11) (v := .ref h1) (C := RX4) (T := TX4) (N := 2) hx hb hta naX4 hown hK hP 0 rfl rfl 0 (by decide) (hta _ wm16) (fun _ h9 => h9) rfl dX4_get_22 ?_
  refine lv_iload_n hx hb dX4_get_25 rfl (lv_at hl 1 rfl) ?_
  refine va_iald hx hb hK hP 1 0 rfl rfl (vp_in_nI (n := 5) (by decide) (by decide)) dX4_get_26 ?_
  refine lv_topi (fun y4 ey4 => ?_)
  obtain rfl : x5 = y4 := ey4.symm
  refine lv_goto (tgt := 31) hx hb dX4_get_27 (by decide) ?_
  have hP9 := hP.sub (ws' := [(h0, .inr (11, [.ref h1, .int 6])), (h1, .inl (cc0, 6, .inl (upd (upd (upd (upd (upd (upd (fun _ => 0) 0 x0) 1 x1) 2 x2) 3 x3) 4 x4) 5 x5)))]) [0, 1] rfl
  have hD9 := hD.sub (ws' := [(h0, .inr (11, [.ref h1, .int 6])), (h1, .inl (cc0, 6, .inl (upd (upd (upd (upd (upd (upd (fun _ => 0) 0 x0) 1 x1) 2 x2) 3 x3) 4 x4) 5 x5)))]) [0, 1] (by decide) rfl
  have hK9 := hK.sub (tys' := [(cc0, .int)]) [0] rfl
  refine W.widen (k := 0) (n := 0) (Nat.le_of_ble_eq_true rfl) (Nat.le_of_ble_eq_true rfl) ?_
  exact W.iret (v := x5) hx hb hr (fun t ht hW => ⟨⟨_, (), rfl, rfl, by rw [ht]; exact hP9, va_K.moved hW.alike hK9, hD9⟩, hS.F ht⟩) hS.2.2 dX4_get_31
set_option maxHeartbeats 4000000 in
set_option maxRecDepth 100000 in
theorem kX4_get_36 (l : Launch) (dC : Nat → ClassId) (dI : Nat → Nat → Nat) (g : Nat → Nat) (sz : Nat) (h0 : Nat) (h1 : Nat) (cc0 : ClassId) (x0 : Int32) (x1 : Int32) (x2 : Int32) (x3 : Int32) (x4 : Int32) (x5 : Int32) (ex0 : (-1 : Int) ≤ x0.toInt ∧ x0.toInt ≤ (21 : Int)) (ex1 : (-1 : Int) ≤ x1.toInt ∧ x1.toInt ≤ (21 : Int)) (ex2 : (-1 : Int) ≤ x2.toInt ∧ x2.toInt ≤ (21 : Int)) (ex3 : (-1 : Int) ≤ x3.toInt ∧ x3.toInt ≤ (21 : Int)) (ex4 : (22 : Int) ≤ x4.toInt ∧ x4.toInt ≤ (2147483647 : Int)) : Met l yX4_get wbX4_get ({ frames := 0, cells := 0, slots := 0, locals := 0 }) (va_Pc [.ref h0, .int 2] (fun U => U.heap.size = sz ∧ va_P (dC, dI) vwCl [(h0, .inr (11, [.ref h1, .int 6])), (h1, .inl (cc0, 6, .inl (upd (upd (upd (upd (upd (upd (fun _ => 0) 0 x0) 1 x1) 2 x2) 3 x3) 4 x4) 5 x5)))] U.heap ∧ va_K (dC, dI) vwCl [(cc0, .int)] U ∧ va_D (fun _ => True) [(h0, .inr (11, [.ref h1, .int 6])), (h1, .inl (cc0, 6, .inl (upd (upd (upd (upd (upd (upd (fun _ => 0) 0 x0) 1 x1) 2 x2) 3 x3) 4 x4) 5 x5)))] ∧ ns_F g (va_A [(h0, .inr (11, [.ref h1, .int 6])), (h1, .inl (cc0, 6, .inl (upd (upd (upd (upd (upd (upd (fun _ => 0) 0 x0) 1 x1) 2 x2) 3 x3) 4 x4) 5 x5)))] sz) U U.heap)) (va_Qi (fun (r : Int32) (_ : Unit) => r = x2) (fun _ t => va_P (dC, dI) vwCl [(h0, .inr (11, [.ref h1, .int 6])), (h1, .inl (cc0, 6, .inl (upd (upd (upd (upd (upd (upd (fun _ => 0) 0 x0) 1 x1) 2 x2) 3 x3) 4 x4) 5 x5)))] t.heap ∧ va_K (dC, dI) vwCl [(cc0, .int)] t ∧ va_D (va_A [(h0, .inr (11, [.ref h1, .int 6])), (h1, .inl (cc0, 6, .inl (upd (upd (upd (upd (upd (upd (fun _ => 0) 0 x0) 1 x1) 2 x2) 3 x3) 4 x4) 5 x5)))] sz) [(h0, .inr (11, [.ref h1, .int 6])), (h1, .inl (cc0, 6, .inl (upd (upd (upd (upd (upd (upd (fun _ => 0) 0 x0) 1 x1) 2 x2) 3 x3) 4 x4) 5 x5)))]) (va_A [(h0, .inr (11, [.ref h1, .int 6])), (h1, .inl (cc0, 6, .inl (upd (upd (upd (upd (upd (upd (fun _ => 0) 0 x0) 1 x1) 2 x2) 3 x3) 4 x4) 5 x5)))] sz)) 0 0 (va_A [(h0, .inr (11, [.ref h1, .int 6])), (h1, .inl (cc0, 6, .inl (upd (upd (upd (upd (upd (upd (fun _ => 0) 0 x0) 1 x1) 2 x2) 3 x3) 4 x4) 5 x5)))] sz) := by
  refine Met.ofW (cc := cX4_get) (maxL := 2) (ret := (some .int)) (by decide) rfl ?_
  intro p e s m args below meth c s₁ B hml hv
  obtain ⟨rfl, hsz, hP, hK, hD0, hF⟩ := hv
  have hx := B.exec
  have hb := B.bytes
  have hr := B.returns
  have hts := atoms_spec (ws := wbX4_get) B.pre
  have hta : ∀ w ∈ wsALL, w.before _ s = true := fun w h => hts w (List.mem_cons_of_mem _ h)
  have hown : s.vm.findClass RX4 = some m.cls := findClass_of_methodNamed B.named
  have hlocks := B.notSynchronized
  subst hsz
  have hD := hD0.self (sz := s.heap.size)
  generalize hAe : va_A [(h0, .inr (11, [.ref h1, .int 6])), (h1, .inl (cc0, 6, .inl (upd (upd (upd (upd (upd (upd (fun _ => 0) 0 x0) 1 x1) 2 x2) 3 x3) 4 x4) 5 x5)))] s.heap.size = A at hD hF ⊢
  have hA : ∀ q : Nat, s.heap.size ≤ q → A q := fun q h => by rw [← hAe]; exact Or.inr h
  have hS : va_S A s.heap s.heap [] := va_S.rf
  have hP : va_P (dC, dI) vwCl [(h0, .inr (11, [.ref h1, .int 6])), (h1, .inl (cc0, 6, .inl (upd (upd (upd (upd (upd (upd (fun _ => 0) 0 x0) 1 x1) 2 x2) 3 x3) 4 x4) 5 x5)))] s.heap := hP
  have hl := lv_entry ([.ref h0, .int 2]) (n := 2) (Nat.le_of_ble_eq_true rfl)
  rw [lg_entry_eq]
  generalize (lg_sl ([.ref h0, .int 2]) ++ List.replicate (2 - (lg_sl ([.ref h0, .int 2])).length) Slot.unset).toArray = ls at hl ⊢
  have hl : lv_has ls 2 [(0, .ref h0), (1, .int 2)] := hl
  refine lv_iload_n hx hb dX4_get_0 rfl (lv_at hl 1 rfl) ?_
  refine lv_if_lt (tgt := 30) hx hb dX4_get_1 (by decide) (fun c1 => absurd c1 (by decide)) (fun c1 => ?_)
  refine lv_iload_n hx hb dX4_get_4 rfl (lv_at hl 1 rfl) ?_
  refine lv_aload_n hx hb dX4_get_5 rfl (lv_at hl 0 rfl) ?_
  refine va_get (D := (dC, dI)) (ci := 11) (v := .int 6) (C := RX4) (T := TX4) (N := 2) hx hb hta naX4 hown hK hP 0 rfl rfl 1 (by decide) (hta _ wm14) (fun _ h9 => h9) rfl dX4_get_6 ?_
  refine lv_icmp_ge (tgt := 30) hx hb dX4_get_9 (by decide) (fun c2 => absurd c2 (by decide)) (fun c2 => ?_)
  refine lv_iload_n hx hb dX4_get_12 rfl (lv_at hl 1 rfl) ?_
  refine lv_aload_n hx hb dX4_get_13 rfl (lv_at hl 0 rfl) ?_
  refine va_get (D := (dC, dI)) (ci := 11) (v := .ref h1) (C := RX4) (T := TX4) (N := 2) hx hb hta naX4 hown hK hP 0 rfl rfl 0 (by decide) (hta _ wm16) (fun _ h9 => h9) rfl dX4_get_14 ?_
  refine va_alen (v := 6) hx hb hK hP 1 0 rfl rfl (show Int32.ofNat 6 = 6 by decide) dX4_get_17 ?_
  refine lv_icmp_ge (tgt := 30) hx hb dX4_get_18 (by decide) (fun c3 => absurd c3 (by decide)) (fun c3 => ?_)
  refine lv_aload_n hx hb dX4_get_21 rfl (lv_at hl 0 rfl) ?_
  refine va_get (D := (dC, dI)) (ci := 11) (v := .ref h1) (C := RX4) (T := TX4) (N := 2) hx hb hta naX4 hown hK hP 0 rfl rfl 0 (by decide) (hta _ wm16) (fun _ h9 => h9) rfl dX4_get_22 ?_
  refine lv_iload_n hx hb dX4_get_25 rfl (lv_at hl 1 rfl) ?_
  refine va_iald hx hb hK hP 1 0 rfl rfl (vp_in_nI (n := 2) (by decide) (by decide)) dX4_get_26 ?_
  refine lv_topi (fun y4 ey4 => ?_)
  obtain rfl : x2 = y4 := ey4.symm
  refine lv_goto (tgt := 31) hx hb dX4_get_27 (by decide) ?_
  have hP9 := hP.sub (ws' := [(h0, .inr (11, [.ref h1, .int 6])), (h1, .inl (cc0, 6, .inl (upd (upd (upd (upd (upd (upd (fun _ => 0) 0 x0) 1 x1) 2 x2) 3 x3) 4 x4) 5 x5)))]) [0, 1] rfl
  have hD9 := hD.sub (ws' := [(h0, .inr (11, [.ref h1, .int 6])), (h1, .inl (cc0, 6, .inl (upd (upd (upd (upd (upd (upd (fun _ => 0) 0 x0) 1 x1) 2 x2) 3 x3) 4 x4) 5 x5)))]) [0, 1] (by decide) rfl
  have hK9 := hK.sub (tys' := [(cc0, .int)]) [0] rfl
  refine W.widen (k := 0) (n := 0) (Nat.le_of_ble_eq_true rfl) (Nat.le_of_ble_eq_true rfl) ?_
  exact W.iret (v := x2) hx hb hr (fun t ht hW => ⟨⟨_, (), rfl, rfl, by rw [ht]; exact hP9, va_K.moved hW.alike hK9, hD9⟩, hS.F ht⟩) hS.2.2 dX4_get_31
set_option maxHeartbeats 4000000 in
set_option maxRecDepth 100000 in
theorem kX4_get_43 (l : Launch) (dC : Nat → ClassId) (dI : Nat → Nat → Nat) (g : Nat → Nat) (sz : Nat) (h0 : Nat) (h1 : Nat) (cc0 : ClassId) (x0 : Int32) (x1 : Int32) (x2 : Int32) (x3 : Int32) (x4 : Int32) (x5 : Int32) (ex0 : (-1 : Int) ≤ x0.toInt ∧ x0.toInt ≤ (21 : Int)) (ex1 : (-1 : Int) ≤ x1.toInt ∧ x1.toInt ≤ (21 : Int)) (ex2 : (22 : Int) ≤ x2.toInt ∧ x2.toInt ≤ (2147483647 : Int)) : Met l yX4_get wbX4_get ({ frames := 0, cells := 0, slots := 0, locals := 0 }) (va_Pc [.ref h0, .int 0] (fun U => U.heap.size = sz ∧ va_P (dC, dI) vwCl [(h0, .inr (11, [.ref h1, .int 6])), (h1, .inl (cc0, 6, .inl (upd (upd (upd (upd (upd (upd (fun _ => 0) 0 x0) 1 x1) 2 x2) 3 x3) 4 x4) 5 x5)))] U.heap ∧ va_K (dC, dI) vwCl [(cc0, .int)] U ∧ va_D (fun _ => True) [(h0, .inr (11, [.ref h1, .int 6])), (h1, .inl (cc0, 6, .inl (upd (upd (upd (upd (upd (upd (fun _ => 0) 0 x0) 1 x1) 2 x2) 3 x3) 4 x4) 5 x5)))] ∧ ns_F g (va_A [(h0, .inr (11, [.ref h1, .int 6])), (h1, .inl (cc0, 6, .inl (upd (upd (upd (upd (upd (upd (fun _ => 0) 0 x0) 1 x1) 2 x2) 3 x3) 4 x4) 5 x5)))] sz) U U.heap)) (va_Qi (fun (r : Int32) (_ : Unit) => r = x0) (fun _ t => va_P (dC, dI) vwCl [(h0, .inr (11, [.ref h1, .int 6])), (h1, .inl (cc0, 6, .inl (upd (upd (upd (upd (upd (upd (fun _ => 0) 0 x0) 1 x1) 2 x2) 3 x3) 4 x4) 5 x5)))] t.heap ∧ va_K (dC, dI) vwCl [(cc0, .int)] t ∧ va_D (va_A [(h0, .inr (11, [.ref h1, .int 6])), (h1, .inl (cc0, 6, .inl (upd (upd (upd (upd (upd (upd (fun _ => 0) 0 x0) 1 x1) 2 x2) 3 x3) 4 x4) 5 x5)))] sz) [(h0, .inr (11, [.ref h1, .int 6])), (h1, .inl (cc0, 6, .inl (upd (upd (upd (upd (upd (upd (fun _ => 0) 0 x0) 1 x1) 2 x2) 3 x3) 4 x4) 5 x5)))]) (va_A [(h0, .inr (11, [.ref h1, .int 6])), (h1, .inl (cc0, 6, .inl (upd (upd (upd (upd (upd (upd (fun _ => 0) 0 x0) 1 x1) 2 x2) 3 x3) 4 x4) 5 x5)))] sz)) 0 0 (va_A [(h0, .inr (11, [.ref h1, .int 6])), (h1, .inl (cc0, 6, .inl (upd (upd (upd (upd (upd (upd (fun _ => 0) 0 x0) 1 x1) 2 x2) 3 x3) 4 x4) 5 x5)))] sz) := by
  refine Met.ofW (cc := cX4_get) (maxL := 2) (ret := (some .int)) (by decide) rfl ?_
  intro p e s m args below meth c s₁ B hml hv
  obtain ⟨rfl, hsz, hP, hK, hD0, hF⟩ := hv
  have hx := B.exec
  have hb := B.bytes
  have hr := B.returns
  have hts := atoms_spec (ws := wbX4_get) B.pre
  have hta : ∀ w ∈ wsALL, w.before _ s = true := fun w h => hts w (List.mem_cons_of_mem _ h)
  have hown : s.vm.findClass RX4 = some m.cls := findClass_of_methodNamed B.named
  have hlocks := B.notSynchronized
  subst hsz
  have hD := hD0.self (sz := s.heap.size)
  generalize hAe : va_A [(h0, .inr (11, [.ref h1, .int 6])), (h1, .inl (cc0, 6, .inl (upd (upd (upd (upd (upd (upd (fun _ => 0) 0 x0) 1 x1) 2 x2) 3 x3) 4 x4) 5 x5)))] s.heap.size = A at hD hF ⊢
  have hA : ∀ q : Nat, s.heap.size ≤ q → A q := fun q h => by rw [← hAe]; exact Or.inr h
  have hS : va_S A s.heap s.heap [] := va_S.rf
  have hP : va_P (dC, dI) vwCl [(h0, .inr (11, [.ref h1, .int 6])), (h1, .inl (cc0, 6, .inl (upd (upd (upd (upd (upd (upd (fun _ => 0) 0 x0) 1 x1) 2 x2) 3 x3) 4 x4) 5 x5)))] s.heap := hP
  have hl := lv_entry ([.ref h0, .int 0]) (n := 2) (Nat.le_of_ble_eq_true rfl)
  rw [lg_entry_eq]
  generalize (lg_sl ([.ref h0, .int 0]) ++ List.replicate (2 - (lg_sl ([.ref h0, .int 0])).length) Slot.unset).toArray = ls at hl ⊢
  have hl : lv_has ls 2 [(0, .ref h0), (1, .int 0)] := hl
  refine lv_iload_n hx hb dX4_get_0 rfl (lv_at hl 1 rfl) ?_
  refine lv_if_lt (tgt := 30) hx hb dX4_get_1 (by decide) (fun c1 => absurd c1 (by decide)) (fun c1 => ?_)
  refine lv_iload_n hx hb dX4_get_4 rfl (lv_at hl 1 rfl) ?_
  refine lv_aload_n hx hb dX4_get_5 rfl (lv_at hl 0 rfl) ?_
  refine va_get (D := (dC, dI)) (ci := 11) (v := .int 6) (C := RX4) (T := TX4) (N := 2) hx hb hta naX4 hown hK hP 0 rfl rfl 1 (by decide) (hta _ wm14) (fun _ h9 => h9) rfl dX4_get_6 ?_
  refine lv_icmp_ge (tgt := 30) hx hb dX4_get_9 (by decide) (fun c2 => absurd c2 (by decide)) (fun c2 => ?_)
  refine lv_iload_n hx hb dX4_get_12 rfl (lv_at hl 1 rfl) ?_
  refine lv_aload_n hx hb dX4_get_13 rfl (lv_at hl 0 rfl) ?_
  refine va_get (D := (dC, dI)) (ci := 11) (v := .ref h1) (C := RX4) (T := TX4) (N := 2) hx hb hta naX4 hown hK hP 0 rfl rfl 0 (by decide) (hta _ wm16) (fun _ h9 => h9) rfl dX4_get_14 ?_
  refine va_alen (v := 6) hx hb hK hP 1 0 rfl rfl (show Int32.ofNat 6 = 6 by decide) dX4_get_17 ?_
  refine lv_icmp_ge (tgt := 30) hx hb dX4_get_18 (by decide) (fun c3 => absurd c3 (by decide)) (fun c3 => ?_)
  refine lv_aload_n hx hb dX4_get_21 rfl (lv_at hl 0 rfl) ?_
  refine va_get (D := (dC, dI)) (ci := 11) (v := .ref h1) (C := RX4) (T := TX4) (N := 2) hx hb hta naX4 hown hK hP 0 rfl rfl 0 (by decide) (hta _ wm16) (fun _ h9 => h9) rfl dX4_get_22 ?_
  refine lv_iload_n hx hb dX4_get_25 rfl (lv_at hl 1 rfl) ?_
  refine va_iald hx hb hK hP 1 0 rfl rfl (vp_in_nI (n := 0) (by decide) (by decide)) dX4_get_26 ?_
  refine lv_topi (fun y4 ey4 => ?_)
  obtain rfl : x0 = y4 := ey4.symm
  refine lv_goto (tgt := 31) hx hb dX4_get_27 (by decide) ?_
  have hP9 := hP.sub (ws' := [(h0, .inr (11, [.ref h1, .int 6])), (h1, .inl (cc0, 6, .inl (upd (upd (upd (upd (upd (upd (fun _ => 0) 0 x0) 1 x1) 2 x2) 3 x3) 4 x4) 5 x5)))]) [0, 1] rfl
  have hD9 := hD.sub (ws' := [(h0, .inr (11, [.ref h1, .int 6])), (h1, .inl (cc0, 6, .inl (upd (upd (upd (upd (upd (upd (fun _ => 0) 0 x0) 1 x1) 2 x2) 3 x3) 4 x4) 5 x5)))]) [0, 1] (by decide) rfl
  have hK9 := hK.sub (tys' := [(cc0, .int)]) [0] rfl
  refine W.widen (k := 0) (n := 0) (Nat.le_of_ble_eq_true rfl) (Nat.le_of_ble_eq_true rfl) ?_
  exact W.iret (v := x0) hx hb hr (fun t ht hW => ⟨⟨_, (), rfl, rfl, by rw [ht]; exact hP9, va_K.moved hW.alike hK9, hD9⟩, hS.F ht⟩) hS.2.2 dX4_get_31
set_option maxHeartbeats 4000000 in
set_option maxRecDepth 100000 in
theorem kX9_lengthAfter_18 (l : Launch) (dC : Nat → ClassId) (dI : Nat → Nat → Nat) (g : Nat → Nat) (sz : Nat) (x0 : Int32) (x1 : Int32) (ex0 : (0 : Int) ≤ x0.toInt ∧ x0.toInt ≤ (5 : Int)) (ex1 : (20 : Int) ≤ x1.toInt ∧ x1.toInt ≤ (21 : Int)) : Met l yX9_lengthAfter wbX9_lengthAfter ({ frames := 0, cells := 0, slots := 0, locals := 0 }) (va_Pc [.int x0, .int x1] (fun U => U.heap.size = sz ∧ va_P (dC, dI) vwCl [] U.heap ∧ va_K (dC, dI) vwCl [] U ∧ va_D (fun _ => True) [] ∧ ns_F g (va_A [] sz) U U.heap)) (va_Qi (fun (r : Int32) (_ : Unit) => r = (ns_len x0 x1)) (fun _ t => va_P (dC, dI) vwCl [] t.heap ∧ va_K (dC, dI) vwCl [] t ∧ va_D (va_A [] sz) []) (va_A [] sz)) 0 0 (va_A [] sz) := by
  refine Met.ofW (cc := cX9_lengthAfter) (maxL := 2) (ret := (some .int)) (by decide) rfl ?_
  intro p e s m args below meth c s₁ B hml hv
  obtain ⟨rfl, hsz, hP, hK, hD0, hF⟩ := hv
  have hx := B.exec
  have hb := B.bytes
  have hr := B.returns
  have hts := atoms_spec (ws := wbX9_lengthAfter) B.pre
  have hta : ∀ w ∈ wsALL, w.before _ s = true := fun w h => hts w (List.mem_cons_of_mem _ h)
  have hown : s.vm.findClass RX9 = some m.cls := findClass_of_methodNamed B.named
  have hlocks := B.notSynchronized
  subst hsz
  have hD := hD0.self (sz := s.heap.size)
  generalize hAe : va_A [] s.heap.size = A at hD hF ⊢
  have hA : ∀ q : Nat, s.heap.size ≤ q → A q := fun q h => by rw [← hAe]; exact Or.inr h
  have hS : va_S A s.heap s.heap [] := va_S.rf
  have hP : va_P (dC, dI) vwCl [] s.heap := hP
  have hl := lv_entry ([.int x0, .int x1]) (n := 2) (Nat.le_of_ble_eq_true rfl)
  rw [lg_entry_eq]
  generalize (lg_sl ([.int x0, .int x1]) ++ List.replicate (2 - (lg_sl ([.int x0, .int x1])).length) Slot.unset).toArray = ls at hl ⊢
  have hl : lv_has ls 2 [(0, .int x0), (1, .int x1)] := hl
  refine lv_iload_n hx hb dX9_lengthAfter_0 rfl (lv_at hl 1 rfl) ?_
  refine lv_iconst (v := (-1)) hx hb dX9_lengthAfter_1 (by decide) ?_
  refine lv_icmp_ne (tgt := 7) hx hb dX9_lengthAfter_2 (by decide) (fun c1 => ?_) (fun c1 => absurd c1 (fun z => absurd (show x1.toInt = (-1 : Int) from congrArg Int32.toInt z) (by omega)))
  refine lv_iload_n hx hb dX9_lengthAfter_7 rfl (lv_at hl 1 rfl) ?_
  refine lv_bipush (v := 21) hx hb dX9_lengthAfter_8 (by decide) ?_
  refine lv_icmp_ne (tgt := 15) hx hb dX9_lengthAfter_10 (by decide) (fun c2 => ?_) (fun c2 => ?_)
  · have ec2 : ¬ x1.toInt = (21 : Int) := fun z => c2 (Int32.toInt_inj.mp z)
    refine lv_iload_n hx hb dX9_lengthAfter_15 rfl (lv_at hl 1 rfl) ?_
    refine lv_bipush (v := 20) hx hb dX9_lengthAfter_16 (by decide) ?_
    refine lv_icmp_ne (tgt := 33) hx hb dX9_lengthAfter_18 (by decide) (fun c3 => absurd (show x1 = (20 : Int32) from Int32.toInt_inj.mp (show x1.toInt = (20 : Int) by omega)) c3) (fun c3 => ?_)
    refine lv_iload_n hx hb dX9_lengthAfter_21 rfl (lv_at hl 0 rfl) ?_
    refine lv_if_le (tgt := 31) hx hb dX9_lengthAfter_22 (by decide) (fun c4 => ?_) (fun c4 => ?_)
    · have ec4 : x0.toInt ≤ (0 : Int) := Int32.le_iff_toInt_le.mp c4
      refine lv_iconst (v := 0) hx hb dX9_lengthAfter_31 (by decide) ?_
      have hP9 := hP.sub (ws' := []) [] rfl
      have hD9 := hD.sub (ws' := []) [] (by decide) rfl
      have hK9 := hK.sub (tys' := []) [] rfl
      refine W.widen (k := 0) (n := 0) (Nat.le_of_ble_eq_true rfl) (Nat.le_of_ble_eq_true rfl) ?_
      have hz9 : 0 = (ns_len x0 x1) := (by unfold ns_len; (repeat' split) <;> first | rfl | (exfalso; omega))
      exact W.iret (v := 0) hx hb hr (fun t ht hW => ⟨⟨_, (), rfl, hz9, by rw [ht]; exact hP9, va_K.moved hW.alike hK9, hD9⟩, hS.F ht⟩) hS.2.2 dX9_lengthAfter_32
    · have ec4 : ¬ x0.toInt ≤ (0 : Int) := fun z => c4 (Int32.le_iff_toInt_le.mpr z)
      refine lv_iload_n hx hb dX9_lengthAfter_25 rfl (lv_at hl 0 rfl) ?_
      refine lv_iconst (v := 1) hx hb dX9_lengthAfter_26 (by decide) ?_
      refine lv_isub hx hb dX9_lengthAfter_27 ?_
      have r5 : (x0 - 1).toInt = x0.toInt - (1 : Int) := fb_subI (show (-2147483648 : Int) ≤ x0.toInt - (1 : Int) by omega) (show x0.toInt - (1 : Int) < (2147483648 : Int) by omega)
      refine lv_goto (tgt := 32) hx hb dX9_lengthAfter_28 (by decide) ?_
      have hP9 := hP.sub (ws' := []) [] rfl
      have hD9 := hD.sub (ws' := []) [] (by decide) rfl
      have hK9 := hK.sub (tys' := []) [] rfl
      refine W.widen (k := 0) (n := 0) (Nat.le_of_ble_eq_true rfl) (Nat.le_of_ble_eq_true rfl) ?_
      have hz9 : (x0 - 1) = (ns_len x0 x1) := (by unfold ns_len; (repeat' split) <;> first | rfl | (exfalso; omega))
      exact W.iret (v := (x0 - 1)) hx hb hr (fun t ht hW => ⟨⟨_, (), rfl, hz9, by rw [ht]; exact hP9, va_K.moved hW.alike hK9, hD9⟩, hS.F ht⟩) hS.2.2 dX9_lengthAfter_32
  · have ec2 : x1.toInt = (21 : Int) := congrArg Int32.toInt c2
    refine lv_iconst (v := 0) hx hb dX9_lengthAfter_13 (by decide) ?_
    have hP9 := hP.sub (ws' := []) [] rfl
    have hD9 := hD.sub (ws' := []) [] (by decide) rfl
    have hK9 := hK.sub (tys' := []) [] rfl
    refine W.widen (k := 0) (n := 0) (Nat.le_of_ble_eq_true rfl) (Nat.le_of_ble_eq_true rfl) ?_
    have hz9 : 0 = (ns_len x0 x1) := (by unfold ns_len; (repeat' split) <;> first | rfl | (exfalso; omega))
    exact W.iret (v := 0) hx hb hr (fun t ht hW => ⟨⟨_, (), rfl, hz9, by rw [ht]; exact hP9, va_K.moved hW.alike hK9, hD9⟩, hS.F ht⟩) hS.2.2 dX9_lengthAfter_14
set_option maxHeartbeats 4000000 in
set_option maxRecDepth 100000 in
theorem kX4_cut_11 (l : Launch) (dC : Nat → ClassId) (dI : Nat → Nat → Nat) (g : Nat → Nat) (sz : Nat) (h0 : Nat) (x0 : Int32) (v0 : Value) (x1 : Int32) (ex0 : (0 : Int) ≤ x0.toInt ∧ x0.toInt ≤ (6 : Int)) (ex1 : (0 : Int) ≤ x1.toInt ∧ x1.toInt ≤ (5 : Int)) : Met l yX4_cut wbX4_cut ({ frames := 0, cells := 0, slots := 0, locals := 0 }) (va_Pc [.ref h0, .int x0] (fun U => U.heap.size = sz ∧ va_P (dC, dI) vwCl [(h0, .inr (11, [v0, .int x1]))] U.heap ∧ va_K (dC, dI) vwCl [] U ∧ va_D (fun _ => True) [(h0, .inr (11, [v0, .int x1]))] ∧ ns_F g (va_A [(h0, .inr (11, [v0, .int x1]))] sz) U U.heap)) (va_Qv (fun _ : Unit => True) (fun _ t => va_P (dC, dI) vwCl [(h0, .inr (11, [v0, .int (ns_cut x1 x0)]))] t.heap ∧ va_K (dC, dI) vwCl [] t ∧ va_D (va_A [(h0, .inr (11, [v0, .int x1]))] sz) [(h0, .inr (11, [v0, .int (ns_cut x1 x0)]))]) (va_A [(h0, .inr (11, [v0, .int x1]))] sz)) 0 0 (va_A [(h0, .inr (11, [v0, .int x1]))] sz) := by
  refine Met.ofW (cc := cX4_cut) (maxL := 2) (ret := none) (by decide) rfl ?_
  intro p e s m args below meth c s₁ B hml hv
  obtain ⟨rfl, hsz, hP, hK, hD0, hF⟩ := hv
  have hx := B.exec
  have hb := B.bytes
  have hr := B.returns
  have hts := atoms_spec (ws := wbX4_cut) B.pre
  have hta : ∀ w ∈ wsALL, w.before _ s = true := fun w h => hts w (List.mem_cons_of_mem _ h)
  have hown : s.vm.findClass RX4 = some m.cls := findClass_of_methodNamed B.named
  have hlocks := B.notSynchronized
  subst hsz
  have hD := hD0.self (sz := s.heap.size)
  generalize hAe : va_A [(h0, .inr (11, [v0, .int x1]))] s.heap.size = A at hD hF ⊢
  have hA : ∀ q : Nat, s.heap.size ≤ q → A q := fun q h => by rw [← hAe]; exact Or.inr h
  have hS : va_S A s.heap s.heap [] := va_S.rf
  have hP : va_P (dC, dI) vwCl [(h0, .inr (11, [v0, .int x1]))] s.heap := hP
  have hl := lv_entry ([.ref h0, .int x0]) (n := 2) (Nat.le_of_ble_eq_true rfl)
  rw [lg_entry_eq]
  generalize (lg_sl ([.ref h0, .int x0]) ++ List.replicate (2 - (lg_sl ([.ref h0, .int x0])).length) Slot.unset).toArray = ls at hl ⊢
  have hl : lv_has ls 2 [(0, .ref h0), (1, .int x0)] := hl
  refine lv_iload_n hx hb dX4_cut_0 rfl (lv_at hl 1 rfl) ?_
  refine lv_if_lt (tgt := 17) hx hb dX4_cut_1 (by decide) (fun c1 => absurd c1 (fun z => absurd (show x0.toInt < (0 : Int) from Int32.lt_iff_toInt_lt.mp z) (by omega))) (fun c1 => ?_)
  refine lv_iload_n hx hb dX4_cut_4 rfl (lv_at hl 1 rfl) ?_
  refine lv_aload_n hx hb dX4_cut_5 rfl (lv_at hl 0 rfl) ?_
  refine va_get (D := (dC, dI)) (ci := 11) (v := .int x1) (C := RX4) (T := TX4) (N := 2) hx hb hta naX4 hown hK hP 0 rfl rfl 1 (by decide) (hta _ wm14) (fun _ h9 => h9) rfl dX4_cut_6 ?_
  refine lv_icmp_ge (tgt := 17) hx hb dX4_cut_9 (by decide) (fun c2 => ?_) (fun c2 => ?_)
  · have ec2 : x1.toInt ≤ x0.toInt := Int32.le_iff_toInt_le.mp c2
    have w3 : x1 = (ns_cut x1 x0) := (by unfold ns_cut; (repeat' split) <;> first | rfl | (exfalso; omega))
    have hP : va_P (dC, dI) vwCl [(h0, .inr (11, [v0, .int (ns_cut x1 x0)]))] s.heap := by rw [← w3]; exact hP
    have hD : va_D A [(h0, .inr (11, [v0, .int (ns_cut x1 x0)]))] := by rw [← w3]; exact hD
    have hP9 := hP.sub (ws' := [(h0, .inr (11, [v0, .int (ns_cut x1 x0)]))]) [0] rfl
    have hD9 := hD.sub (ws' := [(h0, .inr (11, [v0, .int (ns_cut x1 x0)]))]) [0] (by decide) rfl
    have hK9 := hK.sub (tys' := []) [] rfl
    refine W.widen (k := 0) (n := 0) (Nat.le_of_ble_eq_true rfl) (Nat.le_of_ble_eq_true rfl) ?_
    exact W.vret hx hb hr (fun t ht hW => ⟨⟨(), rfl, trivial, by rw [ht]; exact hP9, va_K.moved hW.alike hK9, hD9⟩, hS.F ht⟩) hS.2.2 dX4_cut_17
  · have ec2 : ¬ x1.toInt ≤ x0.toInt := fun z => c2 (Int32.le_iff_toInt_le.mpr z)
    refine lv_aload_n hx hb dX4_cut_12 rfl (lv_at hl 0 rfl) ?_
    refine lv_iload_n hx hb dX4_cut_13 rfl (lv_at hl 1 rfl) ?_
    refine va_put (D := (dC, dI)) (ci := 11) (v := .int x0) (ty := .int) (C := RX4) (T := TX4) (N := 2) hx hb hta naX4 tyX4 tyX4_ok nmX4 hown hK hP hD hS 0 rfl rfl 1 (by decide) (hta _ wm14) (fun _ h9 => h9) rfl (by decide +kernel) rfl rfl (Nat.le_of_ble_eq_true rfl) dX4_cut_14 (fun H locs hP hD hS => ?_)
    have hP : va_P (dC, dI) vwCl [(h0, .inr (11, [v0, .int x0]))] H := hP
    have hD : va_D A [(h0, .inr (11, [v0, .int x0]))] := hD
    have w4 : x0 = (ns_cut x1 x0) := (by unfold ns_cut; (repeat' split) <;> first | rfl | (exfalso; omega))
    have hP : va_P (dC, dI) vwCl [(h0, .inr (11, [v0, .int (ns_cut x1 x0)]))] H := by rw [← w4]; exact hP
    have hD : va_D A [(h0, .inr (11, [v0, .int (ns_cut x1 x0)]))] := by rw [← w4]; exact hD
    have hP9 := hP.sub (ws' := [(h0, .inr (11, [v0, .int (ns_cut x1 x0)]))]) [0] rfl
    have hD9 := hD.sub (ws' := [(h0, .inr (11, [v0, .int (ns_cut x1 x0)]))]) [0] (by decide) rfl
    have hK9 := hK.sub (tys' := []) [] rfl
    refine W.widen (k := 0) (n := 0) (Nat.le_of_ble_eq_true rfl) (Nat.le_of_ble_eq_true rfl) ?_
    exact W.vret hx hb hr (fun t ht hW => ⟨⟨(), rfl, trivial, by rw [ht]; exact hP9, va_K.moved hW.alike hK9, hD9⟩, hS.F ht⟩) hS.2.2 dX4_cut_17
set_option maxHeartbeats 4000000 in
set_option maxRecDepth 100000 in
theorem kJ5_ensureCapacityInternal_d00df_4 (l : Launch) (dC : Nat → ClassId) (dI : Nat → Nat → Nat) (g : Nat → Nat) (sz : Nat) (h0 : Nat) (h1 : Nat) (v0 : Value) (v1 : Value) (cc0 : ClassId) (f0 : Nat → Int32) (hf0 : sb_Fit f0) : Met l yJ5_ensureCapacityInternal_d00df wbJ5_ensureCapacityInternal_d00df ({ frames := 0, cells := 0, slots := 0, locals := 0 }) (va_Pc [.ref h0, .int 4] (fun U => U.heap.size = sz ∧ va_P (dC, dI) vwCl [(h0, .inr (1, [.ref h1, .int 0, v0, v1])), (h1, .inl (cc0, 16, .inl f0))] U.heap ∧ va_K (dC, dI) vwCl [(cc0, .byte)] U ∧ va_D (fun _ => True) [(h0, .inr (1, [.ref h1, .int 0, v0, v1])), (h1, .inl (cc0, 16, .inl f0))] ∧ ns_F g (va_A [(h0, .inr (1, [.ref h1, .int 0, v0, v1])), (h1, .inl (cc0, 16, .inl f0))] sz) U U.heap)) (va_Qv (fun _ : Unit => True) (fun _ t => va_P (dC, dI) vwCl [(h0, .inr (1, [.ref h1, .int 0, v0, v1])), (h1, .inl (cc0, 16, .inl f0))] t.heap ∧ va_K (dC, dI) vwCl [(cc0, .byte)] t ∧ va_D (va_A [(h0, .inr (1, [.ref h1, .int 0, v0, v1])), (h1, .inl (cc0, 16, .inl f0))] sz) [(h0, .inr (1, [.ref h1, .int 0, v0, v1])), (h1, .inl (cc0, 16, .inl f0))]) (va_A [(h0, .inr (1, [.ref h1, .int 0, v0, v1])), (h1, .inl (cc0, 16, .inl f0))] sz)) 0 0 (va_A [(h0, .inr (1, [.ref h1, .int 0, v0, v1])), (h1, .inl (cc0, 16, .inl f0))] sz) := by
  refine Met.ofW (cc := cJ5_ensureCapacityInternal_d00df) (maxL := 3) (ret := none) (by decide) rfl ?_
  intro p e s m args below meth c s₁ B hml hv
  obtain ⟨rfl, hsz, hP, hK, hD0, hF⟩ := hv
  have hx := B.exec
  have hb := B.bytes
  have hr := B.returns
  have hts := atoms_spec (ws := wbJ5_ensureCapacityInternal_d00df) B.pre
  have hta : ∀ w ∈ wsALL, w.before _ s = true := fun w h => hts w (List.mem_cons_of_mem _ h)
  have hown : s.vm.findClass RJ5 = some m.cls := findClass_of_methodNamed B.named
  have hlocks := B.notSynchronized
  subst hsz
  have hD := hD0.self (sz := s.heap.size)
  generalize hAe : va_A [(h0, .inr (1, [.ref h1, .int 0, v0, v1])), (h1, .inl (cc0, 16, .inl f0))] s.heap.size = A at hD hF ⊢
  have hA : ∀ q : Nat, s.heap.size ≤ q → A q := fun q h => by rw [← hAe]; exact Or.inr h
  have hS : va_S A s.heap s.heap [] := va_S.rf
  have hP : va_P (dC, dI) vwCl [(h0, .inr (1, [.ref h1, .int 0, v0, v1])), (h1, .inl (cc0, 16, .inl f0))] s.heap := hP
  have hl := lv_entry ([.ref h0, .int 4]) (n := 3) (Nat.le_of_ble_eq_true rfl)
  rw [lg_entry_eq]
  generalize (lg_sl ([.ref h0, .int 4]) ++ List.replicate (3 - (lg_sl ([.ref h0, .int 4])).length) Slot.unset).toArray = ls at hl ⊢
  have hl : lv_has ls 3 [(0, .ref h0), (1, .int 4)] := hl
  refine lv_aload_n hx hb dJ5_ensureCapacityInternal_d00df_0 rfl (lv_at hl 0 rfl) ?_
  refine va_get (D := (dC, dI)) (ci := 1) (v := .ref h1) (C := RJ4) (T := TJ4) (N := 4) hx hb hta naJ4 hown hK hP 0 rfl rfl 0 (by decide) (hta _ wm141) (fun _ h9 => h9) rfl dJ5_ensureCapacityInternal_d00df_1 ?_
  refine va_alen (v := 16) hx hb hK hP 1 0 rfl rfl (show Int32.ofNat 16 = 16 by decide) dJ5_ensureCapacityInternal_d00df_4 ?_
  refine lv_aload_n hx hb dJ5_ensureCapacityInternal_d00df_5 rfl (lv_at hl 0 rfl) ?_
  refine va_get (D := (dC, dI)) (ci := 1) (v := .int 0) (C := RJ4) (T := TJ4) (N := 4) hx hb hta naJ4 hown hK hP 0 rfl rfl 1 (by decide) (hta _ wm142) (fun _ h9 => h9) rfl dJ5_ensureCapacityInternal_d00df_6 ?_
  refine lv_ishr hx hb dJ5_ensureCapacityInternal_d00df_9 ?_
  refine lv_topi (fun y1 ey1 => ?_)
  obtain rfl : y1 = 16 := ey1.trans (by decide)
  refine lv_istore_n (lv' := [(2, .int 16), (0, .ref h0), (1, .int 4)]) hx hb dJ5_ensureCapacityInternal_d00df_10 rfl hl (by decide) rfl (fun ls hl => ?_)
  refine lv_iload_n hx hb dJ5_ensureCapacityInternal_d00df_11 rfl (lv_at hl 2 rfl) ?_
  refine lv_iload_n hx hb dJ5_ensureCapacityInternal_d00df_12 rfl (lv_at hl 0 rfl) ?_
  refine lv_isub hx hb dJ5_ensureCapacityInternal_d00df_13 ?_
  refine lv_topi (fun y2 ey2 => ?_)
  obtain rfl : y2 = (-12) := ey2.trans (by decide)
  refine lv_if_le (tgt := 38) hx hb dJ5_ensureCapacityInternal_d00df_14 (by decide) (fun c3 => ?_) (fun c3 => absurd (by decide) c3)
  have hP9 := hP.sub (ws' := [(h0, .inr (1, [.ref h1, .int 0, v0, v1])), (h1, .inl (cc0, 16, .inl f0))]) [0, 1] rfl
  have hD9 := hD.sub (ws' := [(h0, .inr (1, [.ref h1, .int 0, v0, v1])), (h1, .inl (cc0, 16, .inl f0))]) [0, 1] (by decide) rfl
  have hK9 := hK.sub (tys' := [(cc0, .byte)]) [0] rfl
  refine W.widen (k := 0) (n := 0) (Nat.le_of_ble_eq_true rfl) (Nat.le_of_ble_eq_true rfl) ?_
  exact W.vret hx hb hr (fun t ht hW => ⟨⟨(), rfl, trivial, by rw [ht]; exact hP9, va_K.moved hW.alike hK9, hD9⟩, hS.F ht⟩) hS.2.2 dJ5_ensureCapacityInternal_d00df_38
set_option maxHeartbeats 4000000 in
set_option maxRecDepth 100000 in
theorem kJx35411_hasNext_aae02 (l : Launch) (dC : Nat → ClassId) (dI : Nat → Nat → Nat) (g : Nat → Nat) (sz : Nat) (h0 : Nat) (h1 : Nat) (v0 : Value) (v1 : Value) (v2 : Value) (v3 : Value) : Met l yJx35411_hasNext_aae02 wbJx35411_hasNext_aae02 ({ frames := 0, cells := 0, slots := 0, locals := 0 }) (va_Pc [.ref h0] (fun U => U.heap.size = sz ∧ va_P (dC, dI) vwCl [(h0, .inr (5, [.int 0, v0, v1, .ref h1])), (h1, .inr (6, [v2, v3, .int 0]))] U.heap ∧ va_K (dC, dI) vwCl [] U ∧ va_D (fun _ => True) [(h0, .inr (5, [.int 0, v0, v1, .ref h1])), (h1, .inr (6, [v2, v3, .int 0]))] ∧ ns_F g (va_A [(h0, .inr (5, [.int 0, v0, v1, .ref h1])), (h1, .inr (6, [v2, v3, .int 0]))] sz) U U.heap)) (va_Qi (fun (r : Int32) (_ : Unit) => r = 0) (fun _ t => va_P (dC, dI) vwCl [(h0, .inr (5, [.int 0, v0, v1, .ref h1])), (h1, .inr (6, [v2, v3, .int 0]))] t.heap ∧ va_K (dC, dI) vwCl [] t ∧ va_D (va_A [(h0, .inr (5, [.int 0, v0, v1, .ref h1])), (h1, .inr (6, [v2, v3, .int 0]))] sz) [(h0, .inr (5, [.int 0, v0, v1, .ref h1])), (h1, .inr (6, [v2, v3, .int 0]))]) (va_A [(h0, .inr (5, [.int 0, v0, v1, .ref h1])), (h1, .inr (6, [v2, v3, .int 0]))] sz)) 0 0 (va_A [(h0, .inr (5, [.int 0, v0, v1, .ref h1])), (h1, .inr (6, [v2, v3, .int 0]))] sz) := by
  refine Met.ofW (cc := cJx35411_hasNext_aae02) (maxL := 1) (ret := (some .boolean)) (by decide) rfl ?_
  intro p e s m args below meth c s₁ B hml hv
  obtain ⟨rfl, hsz, hP, hK, hD0, hF⟩ := hv
  have hx := B.exec
  have hb := B.bytes
  have hr := B.returns
  have hts := atoms_spec (ws := wbJx35411_hasNext_aae02) B.pre
  have hta : ∀ w ∈ wsALL, w.before _ s = true := fun w h => hts w (List.mem_cons_of_mem _ h)
  have hown : s.vm.findClass RJx35411 = some m.cls := findClass_of_methodNamed B.named
  have hlocks := B.notSynchronized
  subst hsz
  have hD := hD0.self (sz := s.heap.size)
  generalize hAe : va_A [(h0, .inr (5, [.int 0, v0, v1, .ref h1])), (h1, .inr (6, [v2, v3, .int 0]))] s.heap.size = A at hD hF ⊢
  have hA : ∀ q : Nat, s.heap.size ≤ q → A q := fun q h => by rw [← hAe]; exact Or.inr h
  have hS : va_S A s.heap s.heap [] := va_S.rf
  have hP : va_P (dC, dI) vwCl [(h0, .inr (5, [.int 0, v0, v1, .ref h1])), (h1, .inr (6, [v2, v3, .int 0]))] s.heap := hP
  have hl := lv_entry ([.ref h0]) (n := 1) (Nat.le_of_ble_eq_true rfl)
  rw [lg_entry_eq]
  generalize (lg_sl ([.ref h0]) ++ List.replicate (1 - (lg_sl ([.ref h0])).length) Slot.unset).toArray = ls at hl ⊢
  have hl : lv_has ls 1 [(0, .ref h0)] := hl
  refine lv_aload_n hx hb dJx35411_hasNext_aae02_0 rfl (lv_at hl 0 rfl) ?_
  refine va_get (D := (dC, dI)) (ci := 5) (v := .int 0) (C := RJx35411) (T := TJx35411) (N := 4) hx hb hta naJx35411 hown hK hP 0 rfl rfl 0 (by decide) (hta _ wm715) (fun _ h9 => h9) rfl dJx35411_hasNext_aae02_1 ?_
  refine lv_aload_n hx hb dJx35411_hasNext_aae02_4 rfl (lv_at hl 0 rfl) ?_
  refine va_get (D := (dC, dI)) (ci := 5) (v := .ref h1) (C := RJx35411) (T := TJx35411) (N := 4) hx hb hta naJx35411 hown hK hP 0 rfl rfl 3 (by decide) (hta _ wm706) (fun _ h9 => h9) rfl dJx35411_hasNext_aae02_5 ?_
  refine va_getN (D := (dC, dI)) (ci := 6) (v := .int 0) (C := RJx4a65c) (T := TJx4a65c) (N := 3) hx hb hta naJx4a65c hown hK hP 1 rfl rfl 2 (by decide) (va_Nw.use rfl (ns_f9 hF)) (fun _ h9 => h9) rfl dJx35411_hasNext_aae02_8 ?_
  refine lv_icmp_eq (tgt := 18) hx hb dJx35411_hasNext_aae02_11 (by decide) (fun c1 => ?_) (fun c1 => absurd (by decide) c1)
  refine lv_iconst (v := 0) hx hb dJx35411_hasNext_aae02_18 (by decide) ?_
  have hP9 := hP.sub (ws' := [(h0, .inr (5, [.int 0, v0, v1, .ref h1])), (h1, .inr (6, [v2, v3, .int 0]))]) [0, 1] rfl
  have hD9 := hD.sub (ws' := [(h0, .inr (5, [.int 0, v0, v1, .ref h1])), (h1, .inr (6, [v2, v3, .int 0]))]) [0, 1] (by decide) rfl
  have hK9 := hK.sub (tys' := []) [] rfl
  refine W.widen (k := 0) (n := 0) (Nat.le_of_ble_eq_true rfl) (Nat.le_of_ble_eq_true rfl) ?_
  exact W.zret (v := 0) hx hb hr (by decide) (fun t ht hW => ⟨⟨_, (), rfl, rfl, by rw [ht]; exact hP9, va_K.moved hW.alike hK9, hD9⟩, hS.F ht⟩) hS.2.2 dJx35411_hasNext_aae02_19
set_option maxHeartbeats 4000000 in
set_option maxRecDepth 100000 in
theorem kX9_stateOf_3 (l : Launch) (dC : Nat → ClassId) (dI : Nat → Nat → Nat) (g : Nat → Nat) (sz : Nat) (h0 : Nat) (v0 : Value) (v1 : Value) (v2 : Value) (v3 : Value) (v4 : Value) (v5 : Value) (v6 : Value) (v7 : Value) (v8 : Value) (v9 : Value) (v10 : Value) (v11 : Value) (v12 : Value) (v13 : Value) (v14 : Value) : Met l yX9_stateOf wbX9_stateOf ({ frames := 0, cells := 0, slots := 0, locals := 0 }) (va_Pc [.ref h0, .int 2] (fun U => U.heap.size = sz ∧ va_P (dC, dI) vwCl [(h0, .inr (16, [v0, v1, v2, v3, v4, v5, v6, v7, v8, v9, v10, v11, .int 60, v12, v13, v14]))] U.heap ∧ va_K (dC, dI) vwCl [] U ∧ va_D (fun _ => True) [(h0, .inr (16, [v0, v1, v2, v3, v4, v5, v6, v7, v8, v9, v10, v11, .int 60, v12, v13, v14]))] ∧ ns_F g (va_A [(h0, .inr (16, [v0, v1, v2, v3, v4, v5, v6, v7, v8, v9, v10, v11, .int 60, v12, v13, v14]))] sz) U U.heap)) (va_Qi (fun (r : Int32) (_ : Unit) => r = 60) (fun _ t => va_P (dC, dI) vwCl [(h0, .inr (16, [v0, v1, v2, v3, v4, v5, v6, v7, v8, v9, v10, v11, .int 60, v12, v13, v14]))] t.heap ∧ va_K (dC, dI) vwCl [] t ∧ va_D (va_A [(h0, .inr (16, [v0, v1, v2, v3, v4, v5, v6, v7, v8, v9, v10, v11, .int 60, v12, v13, v14]))] sz) [(h0, .inr (16, [v0, v1, v2, v3, v4, v5, v6, v7, v8, v9, v10, v11, .int 60, v12, v13, v14]))]) (va_A [(h0, .inr (16, [v0, v1, v2, v3, v4, v5, v6, v7, v8, v9, v10, v11, .int 60, v12, v13, v14]))] sz)) 0 0 (va_A [(h0, .inr (16, [v0, v1, v2, v3, v4, v5, v6, v7, v8, v9, v10, v11, .int 60, v12, v13, v14]))] sz) := by
  refine Met.ofW (cc := cX9_stateOf) (maxL := 2) (ret := (some .int)) (by decide) rfl ?_
  intro p e s m args below meth c s₁ B hml hv
  obtain ⟨rfl, hsz, hP, hK, hD0, hF⟩ := hv
  have hx := B.exec
  have hb := B.bytes
  have hr := B.returns
  have hts := atoms_spec (ws := wbX9_stateOf) B.pre
  have hta : ∀ w ∈ wsALL, w.before _ s = true := fun w h => hts w (List.mem_cons_of_mem _ h)
  have hown : s.vm.findClass RX9 = some m.cls := findClass_of_methodNamed B.named
  have hlocks := B.notSynchronized
  subst hsz
  have hD := hD0.self (sz := s.heap.size)
  generalize hAe : va_A [(h0, .inr (16, [v0, v1, v2, v3, v4, v5, v6, v7, v8, v9, v10, v11, .int 60, v12, v13, v14]))] s.heap.size = A at hD hF ⊢
  have hA : ∀ q : Nat, s.heap.size ≤ q → A q := fun q h => by rw [← hAe]; exact Or.inr h
  have hS : va_S A s.heap s.heap [] := va_S.rf
  have hP : va_P (dC, dI) vwCl [(h0, .inr (16, [v0, v1, v2, v3, v4, v5, v6, v7, v8, v9, v10, v11, .int 60, v12, v13, v14]))] s.heap := hP
  have hl := lv_entry ([.ref h0, .int 2]) (n := 2) (Nat.le_of_ble_eq_true rfl)
  rw [lg_entry_eq]
  generalize (lg_sl ([.ref h0, .int 2]) ++ List.replicate (2 - (lg_sl ([.ref h0, .int 2])).length) Slot.unset).toArray = ls at hl ⊢
  have hl : lv_has ls 2 [(0, .ref h0), (1, .int 2)] := hl
  refine lv_iload_n hx hb dX9_stateOf_0 rfl (lv_at hl 1 rfl) ?_
  refine lv_tableIn (off := 56) (tgt := 57) hx hb dX9_stateOf_1 (by decide) (by decide) (by decide) (by decide) ?_
  refine lv_aload_n hx hb dX9_stateOf_57 rfl (lv_at hl 0 rfl) ?_
  refine va_get (D := (dC, dI)) (ci := 16) (v := .int 60) (C := RX9) (T := TX9) (N := 16) hx hb hta naX9 hown hK hP 0 rfl rfl 12 (by decide) (hta _ wm169) (fun _ h9 => h9) rfl dX9_stateOf_58 ?_
  have hP9 := hP.sub (ws' := [(h0, .inr (16, [v0, v1, v2, v3, v4, v5, v6, v7, v8, v9, v10, v11, .int 60, v12, v13, v14]))]) [0] rfl
  have hD9 := hD.sub (ws' := [(h0, .inr (16, [v0, v1, v2, v3, v4, v5, v6, v7, v8, v9, v10, v11, .int 60, v12, v13, v14]))]) [0] (by decide) rfl
  have hK9 := hK.sub (tys' := []) [] rfl
  refine W.widen (k := 0) (n := 0) (Nat.le_of_ble_eq_true rfl) (Nat.le_of_ble_eq_true rfl) ?_
  exact W.iret (v := 60) hx hb hr (fun t ht hW => ⟨⟨_, (), rfl, rfl, by rw [ht]; exact hP9, va_K.moved hW.alike hK9, hD9⟩, hS.F ht⟩) hS.2.2 dX9_stateOf_61
set_option maxHeartbeats 4000000 in
set_option maxRecDepth 100000 in
theorem kX9_word_28 (l : Launch) (dC : Nat → ClassId) (dI : Nat → Nat → Nat) (g : Nat → Nat) (sz : Nat) (h0 : Nat) (x0 : Int32) (ex0 : (26 : Int) ≤ x0.toInt ∧ x0.toInt ≤ (2147483647 : Int)) (hlt : l.stackTraces = false) : vx_Met l yX9_word wbX9_word ({ frames := 6, cells := 1, slots := 6, locals := 82 }) (va_Pc [.ref h0, .int x0, .int 5] (fun U => U.heap.size = sz ∧ va_P (dC, dI) vwCl [] U.heap ∧ va_K (dC, dI) vwCl [] U ∧ va_D (fun _ => True) [] ∧ ns_F g (va_A [] sz) U U.heap)) (va_Qv (fun _ : Unit => False) (fun _ _ => True) (va_A [] sz)) (vx_X (fun _ : Unit => True) (fun E _ _ => E = "java/lang/IllegalArgumentException") (va_A [] sz)) 1 6 (va_A [] sz) := by
  refine vx_ofW (cc := cX9_word) (maxL := 4) (ret := (some .int)) (by decide) rfl ?_
  intro p e s m args below meth c s₁ B hml hnox hv
  obtain ⟨rfl, hsz, hP, hK, hD0, hF⟩ := hv
  have hx := B.exec
  have hb := B.bytes
  have hr := B.returns
  have hts := atoms_spec (ws := wbX9_word) B.pre
  have hta : ∀ w ∈ wsALL, w.before _ s = true := fun w h => hts w (List.mem_cons_of_mem _ h)
  have hown : s.vm.findClass RX9 = some m.cls := findClass_of_methodNamed B.named
  have hlocks := B.notSynchronized
  subst hsz
  have hD := hD0.self (sz := s.heap.size)
  generalize hAe : va_A [] s.heap.size = A at hD hF ⊢
  have hA : ∀ q : Nat, s.heap.size ≤ q → A q := fun q h => by rw [← hAe]; exact Or.inr h
  have hS : va_S A s.heap s.heap [] := va_S.rf
  have hP : va_P (dC, dI) vwCl [] s.heap := hP
  have hl := lv_entry ([.ref h0, .int x0, .int 5]) (n := 4) (Nat.le_of_ble_eq_true rfl)
  rw [lg_entry_eq]
  generalize (lg_sl ([.ref h0, .int x0, .int 5]) ++ List.replicate (4 - (lg_sl ([.ref h0, .int x0, .int 5])).length) Slot.unset).toArray = ls at hl ⊢
  have hl : lv_has ls 4 [(0, .ref h0), (1, .int x0), (2, .int 5)] := hl
  refine lv_iload_n hx hb dX9_word_0 rfl (lv_at hl 1 rfl) ?_
  refine lv_if_lt (tgt := 10) hx hb dX9_word_1 (by decide) (fun c1 => absurd c1 (fun z => absurd (show x0.toInt < (0 : Int) from Int32.lt_iff_toInt_lt.mp z) (by omega))) (fun c1 => ?_)
  refine lv_iload_n hx hb dX9_word_4 rfl (lv_at hl 1 rfl) ?_
  refine lv_bipush (v := 25) hx hb dX9_word_5 (by decide) ?_
  refine lv_icmp_le (tgt := 20) hx hb dX9_word_7 (by decide) (fun c2 => absurd c2 (fun z => absurd (show x0.toInt ≤ (25 : Int) from Int32.le_iff_toInt_le.mp z) (by omega))) (fun c2 => ?_)
  exact vx_throwS hx hb hlt (text := "letter is 0 to 25") (sa := (g 10)) (names := ["java/lang/RuntimeException", "java/lang/Exception"]) hown (by decide) (by decide) (hta _ wm225) (hta _ wm226) (ns_f21 hF) (vx_hat (B := [.declares ⟨"java/lang/RuntimeException", "<init>", "(Ljava/lang/String;)V"⟩, .declares ⟨"java/lang/Exception", "<init>", "(Ljava/lang/String;)V"⟩, .declares ⟨"java/lang/Throwable", "<init>", "(Ljava/lang/String;)V"⟩, .castable "java/lang/IllegalArgumentException" "java/lang/IllegalArgumentException"]) (fun w9 h9 => hta w9 (vm0 w9 h9)) (by decide +kernel) (vx_c (va_Nw.use rfl (ns_f12 hF)) (vx_c (va_Nw.use rfl (ns_f13 hF)) (vx_c (va_Nw.use rfl (ns_f14 hF)) (vx_c (va_Nw.use rfl (ns_f11 hF)) vx_n))))) (by decide +kernel) (ns_f18 hF) (ns_f19 hF) hS (by rw [hml]; exact hl.1) dX9_word_10 dX9_word_13 dX9_word_14 dX9_word_16 dX9_word_19 (fun x hx => (hnox x hx).elim) (Nat.le_of_ble_eq_true rfl) (Nat.le_of_ble_eq_true rfl) (Nat.le_of_ble_eq_true rfl) (Nat.le_of_ble_eq_true rfl) hlocks (fun t9 hal hsz9 hk9 => ⟨(), trivial, rfl, Nat.le_trans hS.1 hsz9, fun q hq1 hq2 => (hk9 q (Nat.lt_of_lt_of_le hq1 hS.1)).trans (hS.2.1 q hq1 hq2)⟩) hS.2.2 (Nat.le_of_ble_eq_true rfl) (Nat.le_of_ble_eq_true rfl)
set_option maxHeartbeats 4000000 in
set_option maxRecDepth 100000 in
theorem kX7_isThere (l : Launch) (dC : Nat → ClassId) (dI : Nat → Nat → Nat) (g : Nat → Nat) (sz : Nat) (h0 : Nat) (v0 : Value) (v1 : Value) (v2 : Value) (v3 : Value) (v4 : Value) (v5 : Value) (v6 : Value) (v7 : Value) (v8 : Value) : Met l yX7_isThere wbX7_isThere ({ frames := 0, cells := 0, slots := 0, locals := 0 }) (va_Pc [.ref h0] (fun U => U.heap.size = sz ∧ va_P (dC, dI) vwCl [(h0, .inr (14, [v0, v1, v2, v3, v4, v5, v6, v7, v8, .int (-1)]))] U.heap ∧ va_K (dC, dI) vwCl [] U ∧ va_D (fun _ => True) [(h0, .inr (14, [v0, v1, v2, v3, v4, v5, v6, v7, v8, .int (-1)]))] ∧ ns_F g (va_A [(h0, .inr (14, [v0, v1, v2, v3, v4, v5, v6, v7, v8, .int (-1)]))] sz) U U.heap)) (va_Qi (fun (r : Int32) (_ : Unit) => r = 0) (fun _ t => va_P (dC, dI) vwCl [(h0, .inr (14, [v0, v1, v2, v3, v4, v5, v6, v7, v8, .int (-1)]))] t.heap ∧ va_K (dC, dI) vwCl [] t ∧ va_D (va_A [(h0, .inr (14, [v0, v1, v2, v3, v4, v5, v6, v7, v8, .int (-1)]))] sz) [(h0, .inr (14, [v0, v1, v2, v3, v4, v5, v6, v7, v8, .int (-1)]))]) (va_A [(h0, .inr (14, [v0, v1, v2, v3, v4, v5, v6, v7, v8, .int (-1)]))] sz)) 0 0 (va_A [(h0, .inr (14, [v0, v1, v2, v3, v4, v5, v6, v7, v8, .int (-1)]))] sz) := by
  refine Met.ofW (cc := cX7_isThere) (maxL := 1) (ret := (some .boolean)) (by decide) rfl ?_
  intro p e s m args below meth c s₁ B hml hv
  obtain ⟨rfl, hsz, hP, hK, hD0, hF⟩ := hv
  have hx := B.exec
  have hb := B.bytes
  have hr := B.returns
  have hts := atoms_spec (ws := wbX7_isThere) B.pre
  have hta : ∀ w ∈ wsALL, w.before _ s = true := fun w h => hts w (List.mem_cons_of_mem _ h)
  have hown : s.vm.findClass RX7 = some m.cls := findClass_of_methodNamed B.named
  have hlocks := B.notSynchronized
  subst hsz
  have hD := hD0.self (sz := s.heap.size)
  generalize hAe : va_A [(h0, .inr (14, [v0, v1, v2, v3, v4, v5, v6, v7, v8, .int (-1)]))] s.heap.size = A at hD hF ⊢
  have hA : ∀ q : Nat, s.heap.size ≤ q → A q := fun q h => by rw [← hAe]; exact Or.inr h
  have hS : va_S A s.heap s.heap [] := va_S.rf
  have hP : va_P (dC, dI) vwCl [(h0, .inr (14, [v0, v1, v2, v3, v4, v5, v6, v7, v8, .int (-1)]))] s.heap := hP
  have hl := lv_entry ([.ref h0]) (n := 1) (Nat.le_of_ble_eq_true rfl)
  rw [lg_entry_eq]
  generalize (lg_sl ([.ref h0]) ++ List.replicate (1 - (lg_sl ([.ref h0])).length) Slot.unset).toArray = ls at hl ⊢
  have hl : lv_has ls 1 [(0, .ref h0)] := hl
  refine lv_aload_n hx hb dX7_isThere_0 rfl (lv_at hl 0 rfl) ?_
  refine va_get (D := (dC, dI)) (ci := 14) (v := .int (-1)) (C := RX7) (T := TX7) (N := 10) hx hb hta naX7 hown hK hP 0 rfl rfl 9 (by decide) (hta _ wm163) (fun _ h9 => h9) rfl dX7_isThere_1 ?_
  refine lv_iconst (v := (-1)) hx hb dX7_isThere_4 (by decide) ?_
  refine lv_icmp_eq (tgt := 12) hx hb dX7_isThere_5 (by decide) (fun c1 => ?_) (fun c1 => absurd (by decide) c1)
  refine lv_iconst (v := 0) hx hb dX7_isThere_12 (by decide) ?_
  have hP9 := hP.sub (ws' := [(h0, .inr (14, [v0, v1, v2, v3, v4, v5, v6, v7, v8, .int (-1)]))]) [0] rfl
  have hD9 := hD.sub (ws' := [(h0, .inr (14, [v0, v1, v2, v3, v4, v5, v6, v7, v8, .int (-1)]))]) [0] (by decide) rfl
  have hK9 := hK.sub (tys' := []) [] rfl
  refine W.widen (k := 0) (n := 0) (Nat.le_of_ble_eq_true rfl) (Nat.le_of_ble_eq_true rfl) ?_
  exact W.zret (v := 0) hx hb hr (by decide) (fun t ht hW => ⟨⟨_, (), rfl, rfl, by rw [ht]; exact hP9, va_K.moved hW.alike hK9, hD9⟩, hS.F ht⟩) hS.2.2 dX7_isThere_13
set_option maxHeartbeats 4000000 in
set_option maxRecDepth 100000 in
theorem kX9_word_7 (l : Launch) (dC : Nat → ClassId) (dI : Nat → Nat → Nat) (g : Nat → Nat) (sz : Nat) (h0 : Nat) (x0 : Int32) (ex0 : (-2147483648 : Int) ≤ x0.toInt ∧ x0.toInt ≤ (-1 : Int)) (hlt : l.stackTraces = false) : vx_Met l yX9_word wbX9_word ({ frames := 6, cells := 1, slots := 6, locals := 82 }) (va_Pc [.ref h0, .int x0, .int 6] (fun U => U.heap.size = sz ∧ va_P (dC, dI) vwCl [] U.heap ∧ va_K (dC, dI) vwCl [] U ∧ va_D (fun _ => True) [] ∧ ns_F g (va_A [] sz) U U.heap)) (va_Qv (fun _ : Unit => False) (fun _ _ => True) (va_A [] sz)) (vx_X (fun _ : Unit => True) (fun E _ _ => E = "java/lang/IllegalArgumentException") (va_A [] sz)) 1 6 (va_A [] sz) := by
  refine vx_ofW (cc := cX9_word) (maxL := 4) (ret := (some .int)) (by decide) rfl ?_
  intro p e s m args below meth c s₁ B hml hnox hv
  obtain ⟨rfl, hsz, hP, hK, hD0, hF⟩ := hv
  have hx := B.exec
  have hb := B.bytes
  have hr := B.returns
  have hts := atoms_spec (ws := wbX9_word) B.pre
  have hta : ∀ w ∈ wsALL, w.before _ s = true := fun w h => hts w (List.mem_cons_of_mem _ h)
  have hown : s.vm.findClass RX9 = some m.cls := findClass_of_methodNamed B.named
  have hlocks := B.notSynchronized
  subst hsz
  have hD := hD0.self (sz := s.heap.size)
  generalize hAe : va_A [] s.heap.size = A at hD hF ⊢
  have hA : ∀ q : Nat, s.heap.size ≤ q → A q := fun q h => by rw [← hAe]; exact Or.inr h
  have hS : va_S A s.heap s.heap [] := va_S.rf
  have hP : va_P (dC, dI) vwCl [] s.heap := hP
  have hl := lv_entry ([.ref h0, .int x0, .int 6]) (n := 4) (Nat.le_of_ble_eq_true rfl)
  rw [lg_entry_eq]
  generalize (lg_sl ([.ref h0, .int x0, .int 6]) ++ List.replicate (4 - (lg_sl ([.ref h0, .int x0, .int 6])).length) Slot.unset).toArray = ls at hl ⊢
  have hl : lv_has ls 4 [(0, .ref h0), (1, .int x0), (2, .int 6)] := hl
  refine lv_iload_n hx hb dX9_word_0 rfl (lv_at hl 1 rfl) ?_
  refine lv_if_lt (tgt := 10) hx hb dX9_word_1 (by decide) (fun c1 => ?_) (fun c1 => absurd (show x0 < (0 : Int32) from Int32.lt_iff_toInt_lt.mpr (show x0.toInt < (0 : Int) by omega)) c1)
  exact vx_throwS hx hb hlt (text := "letter is 0 to 25") (sa := (g 10)) (names := ["java/lang/RuntimeException", "java/lang/Exception"]) hown (by decide) (by decide) (hta _ wm225) (hta _ wm226) (ns_f21 hF) (vx_hat (B := [.declares ⟨"java/lang/RuntimeException", "<init>", "(Ljava/lang/String;)V"⟩, .declares ⟨"java/lang/Exception", "<init>", "(Ljava/lang/String;)V"⟩, .declares ⟨"java/lang/Throwable", "<init>", "(Ljava/lang/String;)V"⟩, .castable "java/lang/IllegalArgumentException" "java/lang/IllegalArgumentException"]) (fun w9 h9 => hta w9 (vm0 w9 h9)) (by decide +kernel) (vx_c (va_Nw.use rfl (ns_f12 hF)) (vx_c (va_Nw.use rfl (ns_f13 hF)) (vx_c (va_Nw.use rfl (ns_f14 hF)) (vx_c (va_Nw.use rfl (ns_f11 hF)) vx_n))))) (by decide +kernel) (ns_f18 hF) (ns_f19 hF) hS (by rw [hml]; exact hl.1) dX9_word_10 dX9_word_13 dX9_word_14 dX9_word_16 dX9_word_19 (fun x hx => (hnox x hx).elim) (Nat.le_of_ble_eq_true rfl) (Nat.le_of_ble_eq_true rfl) (Nat.le_of_ble_eq_true rfl) (Nat.le_of_ble_eq_true rfl) hlocks (fun t9 hal hsz9 hk9 => ⟨(), trivial, rfl, Nat.le_trans hS.1 hsz9, fun q hq1 hq2 => (hk9 q (Nat.lt_of_lt_of_le hq1 hS.1)).trans (hS.2.1 q hq1 hq2)⟩) hS.2.2 (Nat.le_of_ble_eq_true rfl) (Nat.le_of_ble_eq_true rfl)
set_option maxHeartbeats 4000000 in
set_option maxRecDepth 100000 in
theorem kX16_codeTold_3 (l : Launch) (dC : Nat → ClassId) (dI : Nat → Nat → Nat) (g : Nat → Nat) (sz : Nat) (h0 : Nat) (v0 : Value) (v1 : Value) (v2 : Value) (v3 : Value) (v4 : Value) (v5 : Value) (v6 : Value) (v7 : Value) : Met l yX16_codeTold wbX16_codeTold ({ frames := 0, cells := 0, slots := 0, locals := 0 }) (va_Pc [.ref h0, .int 1] (fun U => U.heap.size = sz ∧ va_P (dC, dI) vwCl [(h0, .inr (23, [v0, v1, v2, v3, v4, .null, v5, v6, v7]))] U.heap ∧ va_K (dC, dI) vwCl [] U ∧ va_D (fun _ => True) [(h0, .inr (23, [v0, v1, v2, v3, v4, .null, v5, v6, v7]))] ∧ ns_F g (va_A [(h0, .inr (23, [v0, v1, v2, v3, v4, .null, v5, v6, v7]))] sz) U U.heap)) (va_Qi (fun (r : Int32) (_ : Unit) => r = 0) (fun _ t => va_P (dC, dI) vwCl [(h0, .inr (23, [v0, v1, v2, v3, v4, .null, v5, v6, v7]))] t.heap ∧ va_K (dC, dI) vwCl [] t ∧ va_D (va_A [(h0, .inr (23, [v0, v1, v2, v3, v4, .null, v5, v6, v7]))] sz) [(h0, .inr (23, [v0, v1, v2, v3, v4, .null, v5, v6, v7]))]) (va_A [(h0, .inr (23, [v0, v1, v2, v3, v4, .null, v5, v6, v7]))] sz)) 0 0 (va_A [(h0, .inr (23, [v0, v1, v2, v3, v4, .null, v5, v6, v7]))] sz) := by
  refine Met.ofW (cc := cX16_codeTold) (maxL := 4) (ret := (some .int)) (by decide) rfl ?_
  intro p e s m args below meth c s₁ B hml hv
  obtain ⟨rfl, hsz, hP, hK, hD0, hF⟩ := hv
  have hx := B.exec
  have hb := B.bytes
  have hr := B.returns
  have hts := atoms_spec (ws := wbX16_codeTold) B.pre
  have hta : ∀ w ∈ wsALL, w.before _ s = true := fun w h => hts w (List.mem_cons_of_mem _ h)
  have hown : s.vm.findClass RX16 = some m.cls := findClass_of_methodNamed B.named
  have hlocks := B.notSynchronized
  subst hsz
  have hD := hD0.self (sz := s.heap.size)
  generalize hAe : va_A [(h0, .inr (23, [v0, v1, v2, v3, v4, .null, v5, v6, v7]))] s.heap.size = A at hD hF ⊢
  have hA : ∀ q : Nat, s.heap.size ≤ q → A q := fun q h => by rw [← hAe]; exact Or.inr h
  have hS : va_S A s.heap s.heap [] := va_S.rf
  have hP : va_P (dC, dI) vwCl [(h0, .inr (23, [v0, v1, v2, v3, v4, .null, v5, v6, v7]))] s.heap := hP
  have hl := lv_entry ([.ref h0, .int 1]) (n := 4) (Nat.le_of_ble_eq_true rfl)
  rw [lg_entry_eq]
  generalize (lg_sl ([.ref h0, .int 1]) ++ List.replicate (4 - (lg_sl ([.ref h0, .int 1])).length) Slot.unset).toArray = ls at hl ⊢
  have hl : lv_has ls 4 [(0, .ref h0), (1, .int 1)] := hl
  refine lv_aload_n hx hb dX16_codeTold_0 rfl (lv_at hl 0 rfl) ?_
  refine va_get (D := (dC, dI)) (ci := 23) (v := .null) (C := RX16) (T := TX16) (N := 9) hx hb hta naX16 hown hK hP 0 rfl rfl 5 (by decide) (hta _ wm947) (fun _ h9 => h9) rfl dX16_codeTold_1 ?_
  refine lv_ifnonnullN hx hb dX16_codeTold_4 ?_
  refine lv_iconst (v := 0) hx hb dX16_codeTold_7 (by decide) ?_
  have hP9 := hP.sub (ws' := [(h0, .inr (23, [v0, v1, v2, v3, v4, .null, v5, v6, v7]))]) [0] rfl
  have hD9 := hD.sub (ws' := [(h0, .inr (23, [v0, v1, v2, v3, v4, .null, v5, v6, v7]))]) [0] (by decide) rfl
  have hK9 := hK.sub (tys' := []) [] rfl
  refine W.widen (k := 0) (n := 0) (Nat.le_of_ble_eq_true rfl) (Nat.le_of_ble_eq_true rfl) ?_
  exact W.iret (v := 0) hx hb hr (fun t ht hW => ⟨⟨_, (), rfl, rfl, by rw [ht]; exact hP9, va_K.moved hW.alike hK9, hD9⟩, hS.F ht⟩) hS.2.2 dX16_codeTold_8
set_option maxHeartbeats 4000000 in
set_option maxRecDepth 100000 in
theorem kJ3_checkFromToIndex_8c36e_5 (l : Launch) (dC : Nat → ClassId) (dI : Nat → Nat → Nat) (g : Nat → Nat) (sz : Nat)  : Met l yJ3_checkFromToIndex_8c36e wbJ3_checkFromToIndex_8c36e ({ frames := 0, cells := 0, slots := 0, locals := 0 }) (va_Pc [.int 0, .int 2, .int 3, .null] (fun U => U.heap.size = sz ∧ va_P (dC, dI) vwCl [] U.heap ∧ va_K (dC, dI) vwCl [] U ∧ va_D (fun _ => True) [] ∧ ns_F g (va_A [] sz) U U.heap)) (va_Qi (fun (r : Int32) (_ : Unit) => r = 0) (fun _ t => va_P (dC, dI) vwCl [] t.heap ∧ va_K (dC, dI) vwCl [] t ∧ va_D (va_A [] sz) []) (va_A [] sz)) 0 0 (va_A [] sz) := by
  refine Met.ofW (cc := cJ3_checkFromToIndex_8c36e) (maxL := 4) (ret := (some .int)) (by decide) rfl ?_
  intro p e s m args below meth c s₁ B hml hv
  obtain ⟨rfl, hsz, hP, hK, hD0, hF⟩ := hv
  have hx := B.exec
  have hb := B.bytes
  have hr := B.returns
  have hts := atoms_spec (ws := wbJ3_checkFromToIndex_8c36e) B.pre
  have hta : ∀ w ∈ wsALL, w.before _ s = true := fun w h => hts w (List.mem_cons_of_mem _ h)
  have hown : s.vm.findClass RJ3 = some m.cls := findClass_of_methodNamed B.named
  have hlocks := B.notSynchronized
  subst hsz
  have hD := hD0.self (sz := s.heap.size)
  generalize hAe : va_A [] s.heap.size = A at hD hF ⊢
  have hA : ∀ q : Nat, s.heap.size ≤ q → A q := fun q h => by rw [← hAe]; exact Or.inr h
  have hS : va_S A s.heap s.heap [] := va_S.rf
  have hP : va_P (dC, dI) vwCl [] s.heap := hP
  have hl := lv_entry ([.int 0, .int 2, .int 3, .null]) (n := 4) (Nat.le_of_ble_eq_true rfl)
  rw [lg_entry_eq]
  generalize (lg_sl ([.int 0, .int 2, .int 3, .null]) ++ List.replicate (4 - (lg_sl ([.int 0, .int 2, .int 3, .null])).length) Slot.unset).toArray = ls at hl ⊢
  have hl : lv_has ls 4 [(0, .int 0), (1, .int 2), (2, .int 3), (3, .null)] := hl
  refine lv_iload_n hx hb dJ3_checkFromToIndex_8c36e_0 rfl (lv_at hl 0 rfl) ?_
  refine lv_if_lt (tgt := 14) hx hb dJ3_checkFromToIndex_8c36e_1 (by decide) (fun c1 => absurd c1 (by decide)) (fun c1 => ?_)
  refine lv_iload_n hx hb dJ3_checkFromToIndex_8c36e_4 rfl (lv_at hl 0 rfl) ?_
  refine lv_iload_n hx hb dJ3_checkFromToIndex_8c36e_5 rfl (lv_at hl 1 rfl) ?_
  refine lv_icmp_gt (tgt := 14) hx hb dJ3_checkFromToIndex_8c36e_6 (by decide) (fun c2 => absurd c2 (by decide)) (fun c2 => ?_)
  refine lv_iload_n hx hb dJ3_checkFromToIndex_8c36e_9 rfl (lv_at hl 1 rfl) ?_
  refine lv_iload_n hx hb dJ3_checkFromToIndex_8c36e_10 rfl (lv_at hl 2 rfl) ?_
  refine lv_icmp_le (tgt := 22) hx hb dJ3_checkFromToIndex_8c36e_11 (by decide) (fun c3 => ?_) (fun c3 => absurd (by decide) c3)
  refine lv_iload_n hx hb dJ3_checkFromToIndex_8c36e_22 rfl (lv_at hl 0 rfl) ?_
  have hP9 := hP.sub (ws' := []) [] rfl
  have hD9 := hD.sub (ws' := []) [] (by decide) rfl
  have hK9 := hK.sub (tys' := []) [] rfl
  refine W.widen (k := 0) (n := 0) (Nat.le_of_ble_eq_true rfl) (Nat.le_of_ble_eq_true rfl) ?_
  exact W.iret (v := 0) hx hb hr (fun t ht hW => ⟨⟨_, (), rfl, rfl, by rw [ht]; exact hP9, va_K.moved hW.alike hK9, hD9⟩, hS.F ht⟩) hS.2.2 dJ3_checkFromToIndex_8c36e_23
set_option maxHeartbeats 4000000 in
set_option maxRecDepth 100000 in
theorem kX16_isIn_16 (l : Launch) (dC : Nat → ClassId) (dI : Nat → Nat → Nat) (g : Nat → Nat) (sz : Nat) (x0 : Int32) (ex0 : (1 : Int) ≤ x0.toInt ∧ x0.toInt ≤ (4 : Int)) : Met l yX16_isIn wbX16_isIn ({ frames := 0, cells := 0, slots := 0, locals := 0 }) (va_Pc [.int x0, .int 1, .int 4] (fun U => U.heap.size = sz ∧ va_P (dC, dI) vwCl [] U.heap ∧ va_K (dC, dI) vwCl [] U ∧ va_D (fun _ => True) [] ∧ ns_F g (va_A [] sz) U U.heap)) (va_Qi (fun (r : Int32) (_ : Unit) => r = 1) (fun _ t => va_P (dC, dI) vwCl [] t.heap ∧ va_K (dC, dI) vwCl [] t ∧ va_D (va_A [] sz) []) (va_A [] sz)) 0 0 (va_A [] sz) := by
  refine Met.ofW (cc := cX16_isIn) (maxL := 3) (ret := (some .boolean)) (by decide) rfl ?_
  intro p e s m args below meth c s₁ B hml hv
  obtain ⟨rfl, hsz, hP, hK, hD0, hF⟩ := hv
  have hx := B.exec
  have hb := B.bytes
  have hr := B.returns
  have hts := atoms_spec (ws := wbX16_isIn) B.pre
  have hta : ∀ w ∈ wsALL, w.before _ s = true := fun w h => hts w (List.mem_cons_of_mem _ h)
  have hown : s.vm.findClass RX16 = some m.cls := findClass_of_methodNamed B.named
  have hlocks := B.notSynchronized
  subst hsz
  have hD := hD0.self (sz := s.heap.size)
  generalize hAe : va_A [] s.heap.size = A at hD hF ⊢
  have hA : ∀ q : Nat, s.heap.size ≤ q → A q := fun q h => by rw [← hAe]; exact Or.inr h
  have hS : va_S A s.heap s.heap [] := va_S.rf
  have hP : va_P (dC, dI) vwCl [] s.heap := hP
  have hl := lv_entry ([.int x0, .int 1, .int 4]) (n := 3) (Nat.le_of_ble_eq_true rfl)
  rw [lg_entry_eq]
  generalize (lg_sl ([.int x0, .int 1, .int 4]) ++ List.replicate (3 - (lg_sl ([.int x0, .int 1, .int 4])).length) Slot.unset).toArray = ls at hl ⊢
  have hl : lv_has ls 3 [(0, .int x0), (1, .int 1), (2, .int 4)] := hl
  refine lv_iload_n hx hb dX16_isIn_0 rfl (lv_at hl 0 rfl) ?_
  refine lv_iload_n hx hb dX16_isIn_1 rfl (lv_at hl 1 rfl) ?_
  refine lv_icmp_lt (tgt := 14) hx hb dX16_isIn_2 (by decide) (fun c1 => absurd c1 (fun z => absurd (show x0.toInt < (1 : Int) from Int32.lt_iff_toInt_lt.mp z) (by omega))) (fun c1 => ?_)
  refine lv_iload_n hx hb dX16_isIn_5 rfl (lv_at hl 0 rfl) ?_
  refine lv_iload_n hx hb dX16_isIn_6 rfl (lv_at hl 2 rfl) ?_
  refine lv_icmp_gt (tgt := 14) hx hb dX16_isIn_7 (by decide) (fun c2 => absurd c2 (fun z => absurd (show (4 : Int) < x0.toInt from Int32.lt_iff_toInt_lt.mp z) (by omega))) (fun c2 => ?_)
  refine lv_iconst (v := 1) hx hb dX16_isIn_10 (by decide) ?_
  refine lv_goto (tgt := 15) hx hb dX16_isIn_11 (by decide) ?_
  have hP9 := hP.sub (ws' := []) [] rfl
  have hD9 := hD.sub (ws' := []) [] (by decide) rfl
  have hK9 := hK.sub (tys' := []) [] rfl
  refine W.widen (k := 0) (n := 0) (Nat.le_of_ble_eq_true rfl) (Nat.le_of_ble_eq_true rfl) ?_
  exact W.zret (v := 1) hx hb hr (by decide) (fun t ht hW => ⟨⟨_, (), rfl, rfl, by rw [ht]; exact hP9, va_K.moved hW.alike hK9, hD9⟩, hS.F ht⟩) hS.2.2 dX16_isIn_15
set_option maxHeartbeats 4000000 in
set_option maxRecDepth 100000 in
theorem kJ5_length_8abf5_3 (l : Launch) (dC : Nat → ClassId) (dI : Nat → Nat → Nat) (g : Nat → Nat) (sz : Nat) (h0 : Nat) (v0 : Value) (v1 : Value) (v2 : Value) : Met l yJ5_length_8abf5 wbJ5_length_8abf5 ({ frames := 0, cells := 0, slots := 0, locals := 0 }) (va_Pc [.ref h0] (fun U => U.heap.size = sz ∧ va_P (dC, dI) vwCl [(h0, .inr (1, [v0, v1, v2, .int 3]))] U.heap ∧ va_K (dC, dI) vwCl [] U ∧ va_D (fun _ => True) [(h0, .inr (1, [v0, v1, v2, .int 3]))] ∧ ns_F g (va_A [(h0, .inr (1, [v0, v1, v2, .int 3]))] sz) U U.heap)) (va_Qi (fun (r : Int32) (_ : Unit) => r = 3) (fun _ t => va_P (dC, dI) vwCl [(h0, .inr (1, [v0, v1, v2, .int 3]))] t.heap ∧ va_K (dC, dI) vwCl [] t ∧ va_D (va_A [(h0, .inr (1, [v0, v1, v2, .int 3]))] sz) [(h0, .inr (1, [v0, v1, v2, .int 3]))]) (va_A [(h0, .inr (1, [v0, v1, v2, .int 3]))] sz)) 0 0 (va_A [(h0, .inr (1, [v0, v1, v2, .int 3]))] sz) := by
  refine Met.ofW (cc := cJ5_length_8abf5) (maxL := 1) (ret := (some .int)) (by decide) rfl ?_
  intro p e s m args below meth c s₁ B hml hv
  obtain ⟨rfl, hsz, hP, hK, hD0, hF⟩ := hv
  have hx := B.exec
  have hb := B.bytes
  have hr := B.returns
  have hts := atoms_spec (ws := wbJ5_length_8abf5) B.pre
  have hta : ∀ w ∈ wsALL, w.before _ s = true := fun w h => hts w (List.mem_cons_of_mem _ h)
  have hown : s.vm.findClass RJ5 = some m.cls := findClass_of_methodNamed B.named
  have hlocks := B.notSynchronized
  subst hsz
  have hD := hD0.self (sz := s.heap.size)
  generalize hAe : va_A [(h0, .inr (1, [v0, v1, v2, .int 3]))] s.heap.size = A at hD hF ⊢
  have hA : ∀ q : Nat, s.heap.size ≤ q → A q := fun q h => by rw [← hAe]; exact Or.inr h
  have hS : va_S A s.heap s.heap [] := va_S.rf
  have hP : va_P (dC, dI) vwCl [(h0, .inr (1, [v0, v1, v2, .int 3]))] s.heap := hP
  have hl := lv_entry ([.ref h0]) (n := 1) (Nat.le_of_ble_eq_true rfl)
  rw [lg_entry_eq]
  generalize (lg_sl ([.ref h0]) ++ List.replicate (1 - (lg_sl ([.ref h0])).length) Slot.unset).toArray = ls at hl ⊢
  have hl : lv_has ls 1 [(0, .ref h0)] := hl
  refine lv_aload_n hx hb dJ5_length_8abf5_0 rfl (lv_at hl 0 rfl) ?_
  refine va_get (D := (dC, dI)) (ci := 1) (v := .int 3) (C := RJ4) (T := TJ4) (N := 4) hx hb hta naJ4 hown hK hP 0 rfl rfl 3 (by decide) (hta _ wm290) (fun _ h9 => h9) rfl dJ5_length_8abf5_1 ?_
  have hP9 := hP.sub (ws' := [(h0, .inr (1, [v0, v1, v2, .int 3]))]) [0] rfl
  have hD9 := hD.sub (ws' := [(h0, .inr (1, [v0, v1, v2, .int 3]))]) [0] (by decide) rfl
  have hK9 := hK.sub (tys' := []) [] rfl
  refine W.widen (k := 0) (n := 0) (Nat.le_of_ble_eq_true rfl) (Nat.le_of_ble_eq_true rfl) ?_
  exact W.iret (v := 3) hx hb hr (fun t ht hW => ⟨⟨_, (), rfl, rfl, by rw [ht]; exact hP9, va_K.moved hW.alike hK9, hD9⟩, hS.F ht⟩) hS.2.2 dJ5_length_8abf5_4
set_option maxHeartbeats 4000000 in
set_option maxRecDepth 100000 in
theorem kX16_isIn_12 (l : Launch) (dC : Nat → ClassId) (dI : Nat → Nat → Nat) (g : Nat → Nat) (sz : Nat)  : Met l yX16_isIn wbX16_isIn ({ frames := 0, cells := 0, slots := 0, locals := 0 }) (va_Pc [.int 9, .int 1, .int 9] (fun U => U.heap.size = sz ∧ va_P (dC, dI) vwCl [] U.heap ∧ va_K (dC, dI) vwCl [] U ∧ va_D (fun _ => True) [] ∧ ns_F g (va_A [] sz) U U.heap)) (va_Qi (fun (r : Int32) (_ : Unit) => r = 1) (fun _ t => va_P (dC, dI) vwCl [] t.heap ∧ va_K (dC, dI) vwCl [] t ∧ va_D (va_A [] sz) []) (va_A [] sz)) 0 0 (va_A [] sz) := by
  refine Met.ofW (cc := cX16_isIn) (maxL := 3) (ret := (some .boolean)) (by decide) rfl ?_
  intro p e s m args below meth c s₁ B hml hv
  obtain ⟨rfl, hsz, hP, hK, hD0, hF⟩ := hv
  have hx := B.exec
  have hb := B.bytes
  have hr := B.returns
  have hts := atoms_spec (ws := wbX16_isIn) B.pre
  have hta : ∀ w ∈ wsALL, w.before _ s = true := fun w h => hts w (List.mem_cons_of_mem _ h)
  have hown : s.vm.findClass RX16 = some m.cls := findClass_of_methodNamed B.named
  have hlocks := B.notSynchronized
  subst hsz
  have hD := hD0.self (sz := s.heap.size)
  generalize hAe : va_A [] s.heap.size = A at hD hF ⊢
  have hA : ∀ q : Nat, s.heap.size ≤ q → A q := fun q h => by rw [← hAe]; exact Or.inr h
  have hS : va_S A s.heap s.heap [] := va_S.rf
  have hP : va_P (dC, dI) vwCl [] s.heap := hP
  have hl := lv_entry ([.int 9, .int 1, .int 9]) (n := 3) (Nat.le_of_ble_eq_true rfl)
  rw [lg_entry_eq]
  generalize (lg_sl ([.int 9, .int 1, .int 9]) ++ List.replicate (3 - (lg_sl ([.int 9, .int 1, .int 9])).length) Slot.unset).toArray = ls at hl ⊢
  have hl : lv_has ls 3 [(0, .int 9), (1, .int 1), (2, .int 9)] := hl
  refine lv_iload_n hx hb dX16_isIn_0 rfl (lv_at hl 0 rfl) ?_
  refine lv_iload_n hx hb dX16_isIn_1 rfl (lv_at hl 1 rfl) ?_
  refine lv_icmp_lt (tgt := 14) hx hb dX16_isIn_2 (by decide) (fun c1 => absurd c1 (by decide)) (fun c1 => ?_)
  refine lv_iload_n hx hb dX16_isIn_5 rfl (lv_at hl 0 rfl) ?_
  refine lv_iload_n hx hb dX16_isIn_6 rfl (lv_at hl 2 rfl) ?_
  refine lv_icmp_gt (tgt := 14) hx hb dX16_isIn_7 (by decide) (fun c2 => absurd c2 (by decide)) (fun c2 => ?_)
  refine lv_iconst (v := 1) hx hb dX16_isIn_10 (by decide) ?_
  refine lv_goto (tgt := 15) hx hb dX16_isIn_11 (by decide) ?_
  have hP9 := hP.sub (ws' := []) [] rfl
  have hD9 := hD.sub (ws' := []) [] (by decide) rfl
  have hK9 := hK.sub (tys' := []) [] rfl
  refine W.widen (k := 0) (n := 0) (Nat.le_of_ble_eq_true rfl) (Nat.le_of_ble_eq_true rfl) ?_
  exact W.zret (v := 1) hx hb hr (by decide) (fun t ht hW => ⟨⟨_, (), rfl, rfl, by rw [ht]; exact hP9, va_K.moved hW.alike hK9, hD9⟩, hS.F ht⟩) hS.2.2 dX16_isIn_15
set_option maxHeartbeats 4000000 in
set_option maxRecDepth 100000 in
theorem kX16_isIn_9 (l : Launch) (dC : Nat → ClassId) (dI : Nat → Nat → Nat) (g : Nat → Nat) (sz : Nat)  : Met l yX16_isIn wbX16_isIn ({ frames := 0, cells := 0, slots := 0, locals := 0 }) (va_Pc [.int 6, .int 1, .int 9] (fun U => U.heap.size = sz ∧ va_P (dC, dI) vwCl [] U.heap ∧ va_K (dC, dI) vwCl [] U ∧ va_D (fun _ => True) [] ∧ ns_F g (va_A [] sz) U U.heap)) (va_Qi (fun (r : Int32) (_ : Unit) => r = 1) (fun _ t => va_P (dC, dI) vwCl [] t.heap ∧ va_K (dC, dI) vwCl [] t ∧ va_D (va_A [] sz) []) (va_A [] sz)) 0 0 (va_A [] sz) := by
  refine Met.ofW (cc := cX16_isIn) (maxL := 3) (ret := (some .boolean)) (by decide) rfl ?_
  intro p e s m args below meth c s₁ B hml hv
  obtain ⟨rfl, hsz, hP, hK, hD0, hF⟩ := hv
  have hx := B.exec
  have hb := B.bytes
  have hr := B.returns
  have hts := atoms_spec (ws := wbX16_isIn) B.pre
  have hta : ∀ w ∈ wsALL, w.before _ s = true := fun w h => hts w (List.mem_cons_of_mem _ h)
  have hown : s.vm.findClass RX16 = some m.cls := findClass_of_methodNamed B.named
  have hlocks := B.notSynchronized
  subst hsz
  have hD := hD0.self (sz := s.heap.size)
  generalize hAe : va_A [] s.heap.size = A at hD hF ⊢
  have hA : ∀ q : Nat, s.heap.size ≤ q → A q := fun q h => by rw [← hAe]; exact Or.inr h
  have hS : va_S A s.heap s.heap [] := va_S.rf
  have hP : va_P (dC, dI) vwCl [] s.heap := hP
  have hl := lv_entry ([.int 6, .int 1, .int 9]) (n := 3) (Nat.le_of_ble_eq_true rfl)
  rw [lg_entry_eq]
  generalize (lg_sl ([.int 6, .int 1, .int 9]) ++ List.replicate (3 - (lg_sl ([.int 6, .int 1, .int 9])).length) Slot.unset).toArray = ls at hl ⊢
  have hl : lv_has ls 3 [(0, .int 6), (1, .int 1), (2, .int 9)] := hl
  refine lv_iload_n hx hb dX16_isIn_0 rfl (lv_at hl 0 rfl) ?_
  refine lv_iload_n hx hb dX16_isIn_1 rfl (lv_at hl 1 rfl) ?_
  refine lv_icmp_lt (tgt := 14) hx hb dX16_isIn_2 (by decide) (fun c1 => absurd c1 (by decide)) (fun c1 => ?_)
  refine lv_iload_n hx hb dX16_isIn_5 rfl (lv_at hl 0 rfl) ?_
  refine lv_iload_n hx hb dX16_isIn_6 rfl (lv_at hl 2 rfl) ?_
  refine lv_icmp_gt (tgt := 14) hx hb dX16_isIn_7 (by decide) (fun c2 => absurd c2 (by decide)) (fun c2 => ?_)
  refine lv_iconst (v := 1) hx hb dX16_isIn_10 (by decide) ?_
  refine lv_goto (tgt := 15) hx hb dX16_isIn_11 (by decide) ?_
  have hP9 := hP.sub (ws' := []) [] rfl
  have hD9 := hD.sub (ws' := []) [] (by decide) rfl
  have hK9 := hK.sub (tys' := []) [] rfl
  refine W.widen (k := 0) (n := 0) (Nat.le_of_ble_eq_true rfl) (Nat.le_of_ble_eq_true rfl) ?_
  exact W.zret (v := 1) hx hb hr (by decide) (fun t ht hW => ⟨⟨_, (), rfl, rfl, by rw [ht]; exact hP9, va_K.moved hW.alike hK9, hD9⟩, hS.F ht⟩) hS.2.2 dX16_isIn_15
set_option maxHeartbeats 4000000 in
set_option maxRecDepth 100000 in
theorem kX16_add_10 (l : Launch) (dC : Nat → ClassId) (dI : Nat → Nat → Nat) (g : Nat → Nat) (sz : Nat)  : Met l yX16_add wbX16_add ({ frames := 0, cells := 0, slots := 0, locals := 0 }) (va_Pc [.long 219105752347983657, .long (-1)] (fun U => U.heap.size = sz ∧ va_P (dC, dI) vwCl [] U.heap ∧ va_K (dC, dI) vwCl [] U ∧ va_D (fun _ => True) [] ∧ ns_F g (va_A [] sz) U U.heap)) (va_Ql (fun (r : Int64) (_ : Unit) => r = 6792278322787493366) (fun _ t => va_P (dC, dI) vwCl [] t.heap ∧ va_K (dC, dI) vwCl [] t ∧ va_D (va_A [] sz) []) (va_A [] sz)) 0 0 (va_A [] sz) := by
  refine Met.ofW (cc := cX16_add) (maxL := 4) (ret := (some .long)) (by decide) rfl ?_
  intro p e s m args below meth c s₁ B hml hv
  obtain ⟨rfl, hsz, hP, hK, hD0, hF⟩ := hv
  have hx := B.exec
  have hb := B.bytes
  have hr := B.returns
  have hts := atoms_spec (ws := wbX16_add) B.pre
  have hta : ∀ w ∈ wsALL, w.before _ s = true := fun w h => hts w (List.mem_cons_of_mem _ h)
  have hown : s.vm.findClass RX16 = some m.cls := findClass_of_methodNamed B.named
  have hlocks := B.notSynchronized
  subst hsz
  have hD := hD0.self (sz := s.heap.size)
  generalize hAe : va_A [] s.heap.size = A at hD hF ⊢
  have hA : ∀ q : Nat, s.heap.size ≤ q → A q := fun q h => by rw [← hAe]; exact Or.inr h
  have hS : va_S A s.heap s.heap [] := va_S.rf
  have hP : va_P (dC, dI) vwCl [] s.heap := hP
  have hl := lv_entry ([.long 219105752347983657, .long (-1)]) (n := 4) (Nat.le_of_ble_eq_true rfl)
  rw [lg_entry_eq]
  generalize (lg_sl ([.long 219105752347983657, .long (-1)]) ++ List.replicate (4 - (lg_sl ([.long 219105752347983657, .long (-1)])).length) Slot.unset).toArray = ls at hl ⊢
  have hl : lv_has ls 4 [(0, .long 219105752347983657), (2, .long (-1))] := hl
  refine lv_lload_n hx hb dX16_add_0 rfl (lv_at hl 0 rfl) ?_
  refine lv_ldc2 (v := 31) hx hb hown (hta _ wm1092) dX16_add_1 ?_
  refine lv_lmul hx hb dX16_add_4 ?_
  refine lv_topl (fun y1 ey1 => ?_)
  obtain rfl : y1 = 6792278322787493367 := ey1.trans (by decide)
  refine lv_lload_n hx hb dX16_add_5 rfl (lv_at hl 1 rfl) ?_
  refine lv_ladd hx hb dX16_add_6 ?_
  refine lv_topl (fun y2 ey2 => ?_)
  obtain rfl : y2 = 6792278322787493366 := ey2.trans (by decide)
  have hP9 := hP.sub (ws' := []) [] rfl
  have hD9 := hD.sub (ws' := []) [] (by decide) rfl
  have hK9 := hK.sub (tys' := []) [] rfl
  refine W.widen (k := 0) (n := 0) (Nat.le_of_ble_eq_true rfl) (Nat.le_of_ble_eq_true rfl) ?_
  exact W.lret (v := 6792278322787493366) hx hb hr (fun t ht hW => ⟨⟨_, (), rfl, rfl, by rw [ht]; exact hP9, va_K.moved hW.alike hK9, hD9⟩, hS.F ht⟩) hS.2.2 dX16_add_7
set_option maxHeartbeats 4000000 in
set_option maxRecDepth 100000 in
theorem kX9_lengthAfter_9 (l : Launch) (dC : Nat → ClassId) (dI : Nat → Nat → Nat) (g : Nat → Nat) (sz : Nat) (x0 : Int32) (x1 : Int32) (ex0 : (0 : Int) ≤ x0.toInt ∧ x0.toInt ≤ (1 : Int)) (ex1 : (-1 : Int) ≤ x1.toInt ∧ x1.toInt ≤ (-1 : Int)) : Met l yX9_lengthAfter wbX9_lengthAfter ({ frames := 0, cells := 0, slots := 0, locals := 0 }) (va_Pc [.int x0, .int x1] (fun U => U.heap.size = sz ∧ va_P (dC, dI) vwCl [] U.heap ∧ va_K (dC, dI) vwCl [] U ∧ va_D (fun _ => True) [] ∧ ns_F g (va_A [] sz) U U.heap)) (va_Qi (fun (r : Int32) (_ : Unit) => r = x0) (fun _ t => va_P (dC, dI) vwCl [] t.heap ∧ va_K (dC, dI) vwCl [] t ∧ va_D (va_A [] sz) []) (va_A [] sz)) 0 0 (va_A [] sz) := by
  refine Met.ofW (cc := cX9_lengthAfter) (maxL := 2) (ret := (some .int)) (by decide) rfl ?_
  intro p e s m args below meth c s₁ B hml hv
  obtain ⟨rfl, hsz, hP, hK, hD0, hF⟩ := hv
  have hx := B.exec
  have hb := B.bytes
  have hr := B.returns
  have hts := atoms_spec (ws := wbX9_lengthAfter) B.pre
  have hta : ∀ w ∈ wsALL, w.before _ s = true := fun w h => hts w (List.mem_cons_of_mem _ h)
  have hown : s.vm.findClass RX9 = some m.cls := findClass_of_methodNamed B.named
  have hlocks := B.notSynchronized
  subst hsz
  have hD := hD0.self (sz := s.heap.size)
  generalize hAe : va_A [] s.heap.size = A at hD hF ⊢
  have hA : ∀ q : Nat, s.heap.size ≤ q → A q := fun q h => by rw [← hAe]; exact Or.inr h
  have hS : va_S A s.heap s.heap [] := va_S.rf
  have hP : va_P (dC, dI) vwCl [] s.heap := hP
  have hl := lv_entry ([.int x0, .int x1]) (n := 2) (Nat.le_of_ble_eq_true rfl)
  rw [lg_entry_eq]
  generalize (lg_sl ([.int x0, .int x1]) ++ List.replicate (2 - (lg_sl ([.int x0, .int x1])).length) Slot.unset).toArray = ls at hl ⊢
  have hl : lv_has ls 2 [(0, .int x0), (1, .int x1)] := hl
  refine lv_iload_n hx hb dX9_lengthAfter_0 rfl (lv_at hl 1 rfl) ?_
  refine lv_iconst (v := (-1)) hx hb dX9_lengthAfter_1 (by decide) ?_
  refine lv_icmp_ne (tgt := 7) hx hb dX9_lengthAfter_2 (by decide) (fun c1 => absurd (show x1 = (-1 : Int32) from Int32.toInt_inj.mp (show x1.toInt = (-1 : Int) by omega)) c1) (fun c1 => ?_)
  refine lv_iload_n hx hb dX9_lengthAfter_5 rfl (lv_at hl 0 rfl) ?_
  have hP9 := hP.sub (ws' := []) [] rfl
  have hD9 := hD.sub (ws' := []) [] (by decide) rfl
  have hK9 := hK.sub (tys' := []) [] rfl
  refine W.widen (k := 0) (n := 0) (Nat.le_of_ble_eq_true rfl) (Nat.le_of_ble_eq_true rfl) ?_
  exact W.iret (v := x0) hx hb hr (fun t ht hW => ⟨⟨_, (), rfl, rfl, by rw [ht]; exact hP9, va_K.moved hW.alike hK9, hD9⟩, hS.F ht⟩) hS.2.2 dX9_lengthAfter_6
set_option maxHeartbeats 4000000 in
set_option maxRecDepth 100000 in
theorem kX16_isIn_22 (l : Launch) (dC : Nat → ClassId) (dI : Nat → Nat → Nat) (g : Nat → Nat) (sz : Nat) (x0 : Int32) (ex0 : (-2147483648 : Int) ≤ x0.toInt ∧ x0.toInt ≤ (-2 : Int)) : Met l yX16_isIn wbX16_isIn ({ frames := 0, cells := 0, slots := 0, locals := 0 }) (va_Pc [.int x0, .int (-1), .int 21] (fun U => U.heap.size = sz ∧ va_P (dC, dI) vwCl [] U.heap ∧ va_K (dC, dI) vwCl [] U ∧ va_D (fun _ => True) [] ∧ ns_F g (va_A [] sz) U U.heap)) (va_Qi (fun (r : Int32) (_ : Unit) => r = 0) (fun _ t => va_P (dC, dI) vwCl [] t.heap ∧ va_K (dC, dI) vwCl [] t ∧ va_D (va_A [] sz) []) (va_A [] sz)) 0 0 (va_A [] sz) := by
  refine Met.ofW (cc := cX16_isIn) (maxL := 3) (ret := (some .boolean)) (by decide) rfl ?_
  intro p e s m args below meth c s₁ B hml hv
  obtain ⟨rfl, hsz, hP, hK, hD0, hF⟩ := hv
  have hx := B.exec
  have hb := B.bytes
  have hr := B.returns
  have hts := atoms_spec (ws := wbX16_isIn) B.pre
  have hta : ∀ w ∈ wsALL, w.before _ s = true := fun w h => hts w (List.mem_cons_of_mem _ h)
  have hown : s.vm.findClass RX16 = some m.cls := findClass_of_methodNamed B.named
  have hlocks := B.notSynchronized
  subst hsz
  have hD := hD0.self (sz := s.heap.size)
  generalize hAe : va_A [] s.heap.size = A at hD hF ⊢
  have hA : ∀ q : Nat, s.heap.size ≤ q → A q := fun q h => by rw [← hAe]; exact Or.inr h
  have hS : va_S A s.heap s.heap [] := va_S.rf
  have hP : va_P (dC, dI) vwCl [] s.heap := hP
  have hl := lv_entry ([.int x0, .int (-1), .int 21]) (n := 3) (Nat.le_of_ble_eq_true rfl)
  rw [lg_entry_eq]
  generalize (lg_sl ([.int x0, .int (-1), .int 21]) ++ List.replicate (3 - (lg_sl ([.int x0, .int (-1), .int 21])).length) Slot.unset).toArray = ls at hl ⊢
  have hl : lv_has ls 3 [(0, .int x0), (1, .int (-1)), (2, .int 21)] := hl
  refine lv_iload_n hx hb dX16_isIn_0 rfl (lv_at hl 0 rfl) ?_
  refine lv_iload_n hx hb dX16_isIn_1 rfl (lv_at hl 1 rfl) ?_
  refine lv_icmp_lt (tgt := 14) hx hb dX16_isIn_2 (by decide) (fun c1 => ?_) (fun c1 => absurd (show x0 < (-1 : Int32) from Int32.lt_iff_toInt_lt.mpr (show x0.toInt < (-1 : Int) by omega)) c1)
  refine lv_iconst (v := 0) hx hb dX16_isIn_14 (by decide) ?_
  have hP9 := hP.sub (ws' := []) [] rfl
  have hD9 := hD.sub (ws' := []) [] (by decide) rfl
  have hK9 := hK.sub (tys' := []) [] rfl
  refine W.widen (k := 0) (n := 0) (Nat.le_of_ble_eq_true rfl) (Nat.le_of_ble_eq_true rfl) ?_
  exact W.zret (v := 0) hx hb hr (by decide) (fun t ht hW => ⟨⟨_, (), rfl, rfl, by rw [ht]; exact hP9, va_K.moved hW.alike hK9, hD9⟩, hS.F ht⟩) hS.2.2 dX16_isIn_15
set_option maxHeartbeats 4000000 in
set_option maxRecDepth 100000 in
theorem kX16_add (l : Launch) (dC : Nat → ClassId) (dI : Nat → Nat → Nat) (g : Nat → Nat) (sz : Nat)  : Met l yX16_add wbX16_add ({ frames := 0, cells := 0, slots := 0, locals := 0 }) (va_Pc [.long 8287, .long 0] (fun U => U.heap.size = sz ∧ va_P (dC, dI) vwCl [] U.heap ∧ va_K (dC, dI) vwCl [] U ∧ va_D (fun _ => True) [] ∧ ns_F g (va_A [] sz) U U.heap)) (va_Ql (fun (r : Int64) (_ : Unit) => r = 256897) (fun _ t => va_P (dC, dI) vwCl [] t.heap ∧ va_K (dC, dI) vwCl [] t ∧ va_D (va_A [] sz) []) (va_A [] sz)) 0 0 (va_A [] sz) := by
  refine Met.ofW (cc := cX16_add) (maxL := 4) (ret := (some .long)) (by decide) rfl ?_
  intro p e s m args below meth c s₁ B hml hv
  obtain ⟨rfl, hsz, hP, hK, hD0, hF⟩ := hv
  have hx := B.exec
  have hb := B.bytes
  have hr := B.returns
  have hts := atoms_spec (ws := wbX16_add) B.pre
  have hta : ∀ w ∈ wsALL, w.before _ s = true := fun w h => hts w (List.mem_cons_of_mem _ h)
  have hown : s.vm.findClass RX16 = some m.cls := findClass_of_methodNamed B.named
  have hlocks := B.notSynchronized
  subst hsz
  have hD := hD0.self (sz := s.heap.size)
  generalize hAe : va_A [] s.heap.size = A at hD hF ⊢
  have hA : ∀ q : Nat, s.heap.size ≤ q → A q := fun q h => by rw [← hAe]; exact Or.inr h
  have hS : va_S A s.heap s.heap [] := va_S.rf
  have hP : va_P (dC, dI) vwCl [] s.heap := hP
  have hl := lv_entry ([.long 8287, .long 0]) (n := 4) (Nat.le_of_ble_eq_true rfl)
  rw [lg_entry_eq]
  generalize (lg_sl ([.long 8287, .long 0]) ++ List.replicate (4 - (lg_sl ([.long 8287, .long 0])).length) Slot.unset).toArray = ls at hl ⊢
  have hl : lv_has ls 4 [(0, .long 8287), (2, .long 0)] := hl
  refine lv_lload_n hx hb dX16_add_0 rfl (lv_at hl 0 rfl) ?_
  refine lv_ldc2 (v := 31) hx hb hown (hta _ wm1092) dX16_add_1 ?_
  refine lv_lmul hx hb dX16_add_4 ?_
  refine lv_topl (fun y1 ey1 => ?_)
  obtain rfl : y1 = 256897 := ey1.trans (by decide)
  refine lv_lload_n hx hb dX16_add_5 rfl (lv_at hl 1 rfl) ?_
  refine lv_ladd hx hb dX16_add_6 ?_
  refine lv_topl (fun y2 ey2 => ?_)
  obtain rfl : y2 = 256897 := ey2.trans (by decide)
  have hP9 := hP.sub (ws' := []) [] rfl
  have hD9 := hD.sub (ws' := []) [] (by decide) rfl
  have hK9 := hK.sub (tys' := []) [] rfl
  refine W.widen (k := 0) (n := 0) (Nat.le_of_ble_eq_true rfl) (Nat.le_of_ble_eq_true rfl) ?_
  exact W.lret (v := 256897) hx hb hr (fun t ht hW => ⟨⟨_, (), rfl, rfl, by rw [ht]; exact hP9, va_K.moved hW.alike hK9, hD9⟩, hS.F ht⟩) hS.2.2 dX16_add_7
set_option maxHeartbeats 4000000 in
set_option maxRecDepth 100000 in
theorem kJ7_checkLength_df160 (l : Launch) (dC : Nat → ClassId) (dI : Nat → Nat → Nat) (g : Nat → Nat) (sz : Nat)  : Met l yJ7_checkLength_df160 wbJ7_checkLength_df160 ({ frames := 0, cells := 0, slots := 0, locals := 0 }) (va_Pc [.int 0, .int 1] (fun U => U.heap.size = sz ∧ va_P (dC, dI) vwCl [] U.heap ∧ va_K (dC, dI) vwCl [] U ∧ va_D (fun _ => True) [] ∧ ns_F g (va_A [] sz) U U.heap)) (va_Qv (fun _ : Unit => True) (fun _ t => va_P (dC, dI) vwCl [] t.heap ∧ va_K (dC, dI) vwCl [] t ∧ va_D (va_A [] sz) []) (va_A [] sz)) 0 0 (va_A [] sz) := by
  refine Met.ofW (cc := cJ7_checkLength_df160) (maxL := 2) (ret := none) (by decide) rfl ?_
  intro p e s m args below meth c s₁ B hml hv
  obtain ⟨rfl, hsz, hP, hK, hD0, hF⟩ := hv
  have hx := B.exec
  have hb := B.bytes
  have hr := B.returns
  have hts := atoms_spec (ws := wbJ7_checkLength_df160) B.pre
  have hta : ∀ w ∈ wsALL, w.before _ s = true := fun w h => hts w (List.mem_cons_of_mem _ h)
  have hown : s.vm.findClass RJ7 = some m.cls := findClass_of_methodNamed B.named
  have hlocks := B.notSynchronized
  subst hsz
  have hD := hD0.self (sz := s.heap.size)
  generalize hAe : va_A [] s.heap.size = A at hD hF ⊢
  have hA : ∀ q : Nat, s.heap.size ≤ q → A q := fun q h => by rw [← hAe]; exact Or.inr h
  have hS : va_S A s.heap s.heap [] := va_S.rf
  have hP : va_P (dC, dI) vwCl [] s.heap := hP
  have hl := lv_entry ([.int 0, .int 1]) (n := 2) (Nat.le_of_ble_eq_true rfl)
  rw [lg_entry_eq]
  generalize (lg_sl ([.int 0, .int 1]) ++ List.replicate (2 - (lg_sl ([.int 0, .int 1])).length) Slot.unset).toArray = ls at hl ⊢
  have hl : lv_has ls 2 [(0, .int 0), (1, .int 1)] := hl
  refine lv_iload_n hx hb dJ7_checkLength_df160_0 rfl (lv_at hl 1 rfl) ?_
  refine lv_iload_n hx hb dJ7_checkLength_df160_1 rfl (lv_at hl 0 rfl) ?_
  refine lv_icmp_ge (tgt := 37) hx hb dJ7_checkLength_df160_2 (by decide) (fun c1 => ?_) (fun c1 => absurd (by decide) c1)
  have hP9 := hP.sub (ws' := []) [] rfl
  have hD9 := hD.sub (ws' := []) [] (by decide) rfl
  have hK9 := hK.sub (tys' := []) [] rfl
  refine W.widen (k := 0) (n := 0) (Nat.le_of_ble_eq_true rfl) (Nat.le_of_ble_eq_true rfl) ?_
  exact W.vret hx hb hr (fun t ht hW => ⟨⟨(), rfl, trivial, by rw [ht]; exact hP9, va_K.moved hW.alike hK9, hD9⟩, hS.F ht⟩) hS.2.2 dJ7_checkLength_df160_37

set_option maxHeartbeats 4000000 in
set_option maxRecDepth 100000 in
theorem kX9_lengthAfter_3 (l : Launch) (dC : Nat → ClassId) (dI : Nat → Nat → Nat) (g : Nat → Nat) (sz : Nat) (x0 : Int32) (x1 : Int32) (ex0 : (0 : Int) ≤ x0.toInt ∧ x0.toInt ≤ (2 : Int)) (ex1 : (-1 : Int) ≤ x1.toInt ∧ x1.toInt ≤ (21 : Int)) : Met l yX9_lengthAfter wbX9_lengthAfter ({ frames := 0, cells := 0, slots := 0, locals := 0 }) (va_Pc [.int x0, .int x1] (fun U => U.heap.size = sz ∧ va_P (dC, dI) vwCl [] U.heap ∧ va_K (dC, dI) vwCl [] U ∧ va_D (fun _ => True) [] ∧ ns_F g (va_A [] sz) U U.heap)) (va_Qi (fun (r : Int32) (_ : Unit) => r = (ns_len x0 x1)) (fun _ t => va_P (dC, dI) vwCl [] t.heap ∧ va_K (dC, dI) vwCl [] t ∧ va_D (va_A [] sz) []) (va_A [] sz)) 0 0 (va_A [] sz) := by
  refine Met.ofW (cc := cX9_lengthAfter) (maxL := 2) (ret := (some .int)) (by decide) rfl ?_
  intro p e s m args below meth c s₁ B hml hv
  obtain ⟨rfl, hsz, hP, hK, hD0, hF⟩ := hv
  have hx := B.exec
  have hb := B.bytes
  have hr := B.returns
  have hts := atoms_spec (ws := wbX9_lengthAfter) B.pre
  have hta : ∀ w ∈ wsALL, w.before _ s = true := fun w h => hts w (List.mem_cons_of_mem _ h)
  have hown : s.vm.findClass RX9 = some m.cls := findClass_of_methodNamed B.named
  have hlocks := B.notSynchronized
  subst hsz
  have hD := hD0.self (sz := s.heap.size)
  generalize hAe : va_A [] s.heap.size = A at hD hF ⊢
  have hA : ∀ q : Nat, s.heap.size ≤ q → A q := fun q h => by rw [← hAe]; exact Or.inr h
  have hS : va_S A s.heap s.heap [] := va_S.rf
  have hP : va_P (dC, dI) vwCl [] s.heap := hP
  have hl := lv_entry ([.int x0, .int x1]) (n := 2) (Nat.le_of_ble_eq_true rfl)
  rw [lg_entry_eq]
  generalize (lg_sl ([.int x0, .int x1]) ++ List.replicate (2 - (lg_sl ([.int x0, .int x1])).length) Slot.unset).toArray = ls at hl ⊢
  have hl : lv_has ls 2 [(0, .int x0), (1, .int x1)] := hl
  refine lv_iload_n hx hb dX9_lengthAfter_0 rfl (lv_at hl 1 rfl) ?_
  refine lv_iconst (v := (-1)) hx hb dX9_lengthAfter_1 (by decide) ?_
  refine lv_icmp_ne (tgt := 7) hx hb dX9_lengthAfter_2 (by decide) (fun c1 => ?_) (fun c1 => ?_)
  · have ec1 : ¬ x1.toInt = (-1 : Int) := fun z => c1 (Int32.toInt_inj.mp z)
    refine lv_iload_n hx hb dX9_lengthAfter_7 rfl (lv_at hl 1 rfl) ?_
    refine lv_bipush (v := 21) hx hb dX9_lengthAfter_8 (by decide) ?_
    refine lv_icmp_ne (tgt := 15) hx hb dX9_lengthAfter_10 (by decide) (fun c2 => ?_) (fun c2 => ?_)
    · have ec2 : ¬ x1.toInt = (21 : Int) := fun z => c2 (Int32.toInt_inj.mp z)
      refine lv_iload_n hx hb dX9_lengthAfter_15 rfl (lv_at hl 1 rfl) ?_
      refine lv_bipush (v := 20) hx hb dX9_lengthAfter_16 (by decide) ?_
      refine lv_icmp_ne (tgt := 33) hx hb dX9_lengthAfter_18 (by decide) (fun c3 => ?_) (fun c3 => ?_)
      · have ec3 : ¬ x1.toInt = (20 : Int) := fun z => c3 (Int32.toInt_inj.mp z)
        refine lv_iload_n hx hb dX9_lengthAfter_33 rfl (lv_at hl 0 rfl) ?_
        refine lv_iconst (v := 1) hx hb dX9_lengthAfter_34 (by decide) ?_
        refine lv_iadd hx hb dX9_lengthAfter_35 ?_
        have r4 : (x0 + 1).toInt = x0.toInt + (1 : Int) := fb_addI (show (-2147483648 : Int) ≤ x0.toInt + (1 : Int) by omega) (show x0.toInt + (1 : Int) < (2147483648 : Int) by omega)
        have hP9 := hP.sub (ws' := []) [] rfl
        have hD9 := hD.sub (ws' := []) [] (by decide) rfl
        have hK9 := hK.sub (tys' := []) [] rfl
        refine W.widen (k := 0) (n := 0) (Nat.le_of_ble_eq_true rfl) (Nat.le_of_ble_eq_true rfl) ?_
        have hz9 : (x0 + 1) = (ns_len x0 x1) := (by unfold ns_len; (repeat' split) <;> first | rfl | (exfalso; omega))
        exact W.iret (v := (x0 + 1)) hx hb hr (fun t ht hW => ⟨⟨_, (), rfl, hz9, by rw [ht]; exact hP9, va_K.moved hW.alike hK9, hD9⟩, hS.F ht⟩) hS.2.2 dX9_lengthAfter_36
      · have ec3 : x1.toInt = (20 : Int) := congrArg Int32.toInt c3
        refine lv_iload_n hx hb dX9_lengthAfter_21 rfl (lv_at hl 0 rfl) ?_
        refine lv_if_le (tgt := 31) hx hb dX9_lengthAfter_22 (by decide) (fun c5 => ?_) (fun c5 => ?_)
        · have ec5 : x0.toInt ≤ (0 : Int) := Int32.le_iff_toInt_le.mp c5
          refine lv_iconst (v := 0) hx hb dX9_lengthAfter_31 (by decide) ?_
          have hP9 := hP.sub (ws' := []) [] rfl
          have hD9 := hD.sub (ws' := []) [] (by decide) rfl
          have hK9 := hK.sub (tys' := []) [] rfl
          refine W.widen (k := 0) (n := 0) (Nat.le_of_ble_eq_true rfl) (Nat.le_of_ble_eq_true rfl) ?_
          have hz9 : 0 = (ns_len x0 x1) := (by unfold ns_len; (repeat' split) <;> first | rfl | (exfalso; omega))
          exact W.iret (v := 0) hx hb hr (fun t ht hW => ⟨⟨_, (), rfl, hz9, by rw [ht]; exact hP9, va_K.moved hW.alike hK9, hD9⟩, hS.F ht⟩) hS.2.2 dX9_lengthAfter_32
        · have ec5 : ¬ x0.toInt ≤ (0 : Int) := fun z => c5 (Int32.le_iff_toInt_le.mpr z)
          refine lv_iload_n hx hb dX9_lengthAfter_25 rfl (lv_at hl 0 rfl) ?_
          refine lv_iconst (v := 1) hx hb dX9_lengthAfter_26 (by decide) ?_
          refine lv_isub hx hb dX9_lengthAfter_27 ?_
          have r6 : (x0 - 1).toInt = x0.toInt - (1 : Int) := fb_subI (show (-2147483648 : Int) ≤ x0.toInt - (1 : Int) by omega) (show x0.toInt - (1 : Int) < (2147483648 : Int) by omega)
          refine lv_goto (tgt := 32) hx hb dX9_lengthAfter_28 (by decide) ?_
          have hP9 := hP.sub (ws' := []) [] rfl
          have hD9 := hD.sub (ws' := []) [] (by decide) rfl
          have hK9 := hK.sub (tys' := []) [] rfl
          refine W.widen (k := 0) (n := 0) (Nat.le_of_ble_eq_true rfl) (Nat.le_of_ble_eq_true rfl) ?_
          have hz9 : (x0 - 1) = (ns_len x0 x1) := (by unfold ns_len; (repeat' split) <;> first | rfl | (exfalso; omega))
          exact W.iret (v := (x0 - 1)) hx hb hr (fun t ht hW => ⟨⟨_, (), rfl, hz9, by rw [ht]; exact hP9, va_K.moved hW.alike hK9, hD9⟩, hS.F ht⟩) hS.2.2 dX9_lengthAfter_32
    · have ec2 : x1.toInt = (21 : Int) := congrArg Int32.toInt c2
      refine lv_iconst (v := 0) hx hb dX9_lengthAfter_13 (by decide) ?_
      have hP9 := hP.sub (ws' := []) [] rfl
      have hD9 := hD.sub (ws' := []) [] (by decide) rfl
      have hK9 := hK.sub (tys' := []) [] rfl
      refine W.widen (k := 0) (n := 0) (Nat.le_of_ble_eq_true rfl) (Nat.le_of_ble_eq_true rfl) ?_
      have hz9 : 0 = (ns_len x0 x1) := (by unfold ns_len; (repeat' split) <;> first | rfl | (exfalso; omega))
      exact W.iret (v := 0) hx hb hr (fun t ht hW => ⟨⟨_, (), rfl, hz9, by rw [ht]; exact hP9, va_K.moved hW.alike hK9, hD9⟩, hS.F ht⟩) hS.2.2 dX9_lengthAfter_14
  · have ec1 : x1.toInt = (-1 : Int) := congrArg Int32.toInt c1
    refine lv_iload_n hx hb dX9_lengthAfter_5 rfl (lv_at hl 0 rfl) ?_
    have hP9 := hP.sub (ws' := []) [] rfl
    have hD9 := hD.sub (ws' := []) [] (by decide) rfl
    have hK9 := hK.sub (tys' := []) [] rfl
    refine W.widen (k := 0) (n := 0) (Nat.le_of_ble_eq_true rfl) (Nat.le_of_ble_eq_true rfl) ?_
    have hz9 : x0 = (ns_len x0 x1) := (by unfold ns_len; (repeat' split) <;> first | rfl | (exfalso; omega))
    exact W.iret (v := x0) hx hb hr (fun t ht hW => ⟨⟨_, (), rfl, hz9, by rw [ht]; exact hP9, va_K.moved hW.alike hK9, hD9⟩, hS.F ht⟩) hS.2.2 dX9_lengthAfter_6
set_option maxHeartbeats 4000000 in
set_option maxRecDepth 100000 in
theorem kJx4a65c_grow_92f84 (l : Launch) (dC : Nat → ClassId) (dI : Nat → Nat → Nat) (g : Nat → Nat) (sz : Nat) (h0 : Nat) (v0 : Value) (v1 : Value) : Met l yJx4a65c_grow_92f84 wbJx4a65c_grow_92f84 ({ frames := 1, cells := 1, slots := 10, locals := 14 }) (va_Pc [.ref h0, .int 1] (fun U => U.heap.size = sz ∧ va_P (dC, dI) vwCl [(h0, .inr (6, [v0, .ref (g 0), v1]))] U.heap ∧ va_K (dC, dI) vwCl [] U ∧ va_D (fun _ => True) [(h0, .inr (6, [v0, .ref (g 0), v1]))] ∧ ns_F g (va_A [(h0, .inr (6, [v0, .ref (g 0), v1]))] sz) U U.heap)) (va_Qr (fun _ : Unit => True) (fun _ r t => ∃ k0 : Nat, ∃ kc1 : ClassId, r = k0 ∧ va_P (dC, dI) vwCl [(h0, .inr (6, [v0, .ref k0, v1])), (k0, .inl (kc1, 10, .inr (.inr (.inr (.inr (fun _ => none))))))] t.heap ∧ va_K (dC, dI) vwCl [(kc1, .object "java/lang/Object")] t ∧ va_D (va_A [(h0, .inr (6, [v0, .ref (g 0), v1]))] sz) [(h0, .inr (6, [v0, .ref k0, v1])), (k0, .inl (kc1, 10, .inr (.inr (.inr (.inr (fun _ => none))))))]) (va_A [(h0, .inr (6, [v0, .ref (g 0), v1]))] sz)) 1 10 (va_A [(h0, .inr (6, [v0, .ref (g 0), v1]))] sz) := by
  refine Met.ofW (cc := cJx4a65c_grow_92f84) (maxL := 4) (ret := (some (.array (.object "java/lang/Object")))) (by decide) rfl ?_
  intro p e s m args below meth c s₁ B hml hv
  obtain ⟨rfl, hsz, hP, hK, hD0, hF⟩ := hv
  have hx := B.exec
  have hb := B.bytes
  have hr := B.returns
  have hts := atoms_spec (ws := wbJx4a65c_grow_92f84) B.pre
  have hta : ∀ w ∈ wsALL, w.before _ s = true := fun w h => hts w (List.mem_cons_of_mem _ h)
  have hown : s.vm.findClass RJx4a65c = some m.cls := findClass_of_methodNamed B.named
  have hlocks := B.notSynchronized
  subst hsz
  have hD := hD0.self (sz := s.heap.size)
  generalize hAe : va_A [(h0, .inr (6, [v0, .ref (g 0), v1]))] s.heap.size = A at hD hF ⊢
  have hA : ∀ q : Nat, s.heap.size ≤ q → A q := fun q h => by rw [← hAe]; exact Or.inr h
  have hS : va_S A s.heap s.heap [] := va_S.rf
  have hP : va_P (dC, dI) vwCl [(h0, .inr (6, [v0, .ref (g 0), v1]))] s.heap := hP
  have hl := lv_entry ([.ref h0, .int 1]) (n := 4) (Nat.le_of_ble_eq_true rfl)
  rw [lg_entry_eq]
  generalize (lg_sl ([.ref h0, .int 1]) ++ List.replicate (4 - (lg_sl ([.ref h0, .int 1])).length) Slot.unset).toArray = ls at hl ⊢
  have hl : lv_has ls 4 [(0, .ref h0), (1, .int 1)] := hl
  refine lv_aload_n hx hb dJx4a65c_grow_92f84_0 rfl (lv_at hl 0 rfl) ?_
  refine va_get (D := (dC, dI)) (ci := 6) (v := .ref (g 0)) (C := RJx4a65c) (T := TJx4a65c) (N := 3) hx hb hta naJx4a65c hown hK hP 0 rfl rfl 1 (by decide) (hta _ wm205) (fun _ h9 => h9) rfl dJx4a65c_grow_92f84_1 ?_
  refine va_tlen (v := 0) hx hb (ns_f20 hF) hS (by decide) dJx4a65c_grow_92f84_4 ?_
  refine lv_istore_n (lv' := [(2, .int 0), (0, .ref h0), (1, .int 1)]) hx hb dJx4a65c_grow_92f84_5 rfl hl (by decide) rfl (fun ls hl => ?_)
  refine lv_iload_n hx hb dJx4a65c_grow_92f84_6 rfl (lv_at hl 0 rfl) ?_
  refine lv_if_gt (tgt := 20) hx hb dJx4a65c_grow_92f84_7 (by decide) (fun c1 => absurd c1 (by decide)) (fun c1 => ?_)
  refine lv_aload_n hx hb dJx4a65c_grow_92f84_10 rfl (lv_at hl 1 rfl) ?_
  refine va_get (D := (dC, dI)) (ci := 6) (v := .ref (g 0)) (C := RJx4a65c) (T := TJx4a65c) (N := 3) hx hb hta naJx4a65c hown hK hP 0 rfl rfl 1 (by decide) (hta _ wm205) (fun _ h9 => h9) rfl dJx4a65c_grow_92f84_11 ?_
  refine va_gets hx hb (ns_f16 hF) hS hown (hta _ wm204) (fun _ h9 => h9) dJx4a65c_grow_92f84_14 ?_
  refine lv_acmp_eq (rx := (some (g 0))) (ry := (some (g 0))) (tgt := 45) hx hb dJx4a65c_grow_92f84_17 (by decide) (fun c2 => ?_) (fun c2 => absurd rfl c2)
  refine lv_aload_n hx hb dJx4a65c_grow_92f84_45 rfl (lv_at hl 1 rfl) ?_
  refine lv_bipush (v := 10) hx hb dJx4a65c_grow_92f84_46 (by decide) ?_
  refine lv_iload_n hx hb dJx4a65c_grow_92f84_48 rfl (lv_at hl 2 rfl) ?_
  refine va_mmax hx hb (by rw [hml]; exact hl.1.symm) hown (hta _ wm371) (hta _ wm372) (hta _ wm328) (hta _ wm373) (Nat.le_of_ble_eq_true rfl) (Nat.le_of_ble_eq_true rfl) (Nat.le_of_ble_eq_true rfl) (Nat.le_of_ble_eq_true rfl) dJx4a65c_grow_92f84_49 ?_
  refine lv_topi (fun y3 ey3 => ?_)
  obtain rfl : y3 = 10 := ey3.trans (by decide)
  refine va_newq (N' := 10) hx hb hown (hta _ wm374) (ns_f51 hF) hK hP hD hS hA (by decide) (by decide) (Nat.le_of_ble_eq_true rfl) (Nat.le_of_ble_eq_true rfl) (Nat.le_of_ble_eq_true rfl) dJx4a65c_grow_92f84_52 (fun q4 cyq4 H hK hP hD hS => ?_)
  have hP : va_P (dC, dI) vwCl [(h0, .inr (6, [v0, .ref (g 0), v1])), (q4, .inl (cyq4, 10, .inr (.inr (.inr (.inr (fun _ => none))))))] H := hP
  have hD : va_D A [(h0, .inr (6, [v0, .ref (g 0), v1])), (q4, .inl (cyq4, 10, .inr (.inr (.inr (.inr (fun _ => none))))))] := hD
  have hK : va_K (dC, dI) vwCl [(cyq4, .object "java/lang/Object")] s := hK
  refine W.widen (k := 1) (n := 10) (Nat.le_of_ble_eq_true rfl) (Nat.le_of_ble_eq_true rfl) ?_
  refine lv_dup_x1 hx hb dJx4a65c_grow_92f84_55 rfl rfl ?_
  refine va_put (D := (dC, dI)) (ci := 6) (v := .ref q4) (ty := .array (.object "java/lang/Object")) (C := RJx4a65c) (T := TJx4a65c) (N := 3) hx hb hta naJx4a65c tyJx4a65c tyJx4a65c_ok nmJx4a65c hown hK hP hD hS 0 rfl rfl 1 (by decide) (hta _ wm205) (fun _ h9 => h9) rfl (by decide +kernel) rfl rfl (Nat.le_of_ble_eq_true rfl) dJx4a65c_grow_92f84_56 (fun H locs hP hD hS => ?_)
  have hP : va_P (dC, dI) vwCl [(h0, .inr (6, [v0, .ref q4, v1])), (q4, .inl (cyq4, 10, .inr (.inr (.inr (.inr (fun _ => none))))))] H := hP
  have hD : va_D A [(h0, .inr (6, [v0, .ref q4, v1])), (q4, .inl (cyq4, 10, .inr (.inr (.inr (.inr (fun _ => none))))))] := hD
  have hP9 := hP.sub (ws' := [(h0, .inr (6, [v0, .ref q4, v1])), (q4, .inl (cyq4, 10, .inr (.inr (.inr (.inr (fun _ => none))))))]) [0, 1] rfl
  have hD9 := hD.sub (ws' := [(h0, .inr (6, [v0, .ref q4, v1])), (q4, .inl (cyq4, 10, .inr (.inr (.inr (.inr (fun _ => none))))))]) [0, 1] (by decide) rfl
  have hK9 := hK.sub (tys' := [(cyq4, .object "java/lang/Object")]) [0] rfl
  refine W.widen (k := 1) (n := 10) (Nat.le_of_ble_eq_true rfl) (Nat.le_of_ble_eq_true rfl) ?_
  exact W.aret (v := .ref q4) hx hb hr (by first | exact Or.inl ⟨_, rfl⟩ | exact Or.inr ⟨_, rfl⟩) (Or.inr ⟨_, rfl⟩) (fun t ht hW => ⟨⟨(), _, rfl, trivial, q4, cyq4, rfl, by rw [ht]; exact hP9, va_K.moved hW.alike hK9, hD9⟩, hS.F ht⟩) hS.2.2 dJx4a65c_grow_92f84_59
set_option maxHeartbeats 4000000 in
set_option maxRecDepth 100000 in
theorem kX4_add_33 (l : Launch) (dC : Nat → ClassId) (dI : Nat → Nat → Nat) (g : Nat → Nat) (sz : Nat) (h0 : Nat) (x0 : Int32) (h1 : Nat) (cc0 : ClassId) (f0 : Nat → Int32) (ex0 : (-2147483648 : Int) ≤ x0.toInt ∧ x0.toInt ≤ (-2 : Int)) : Met l yX4_add wbX4_add ({ frames := 0, cells := 0, slots := 0, locals := 0 }) (va_Pc [.ref h0, .int x0] (fun U => U.heap.size = sz ∧ va_P (dC, dI) vwCl [(h0, .inr (11, [.ref h1, .int 3])), (h1, .inl (cc0, 6, .inl f0))] U.heap ∧ va_K (dC, dI) vwCl [(cc0, .int)] U ∧ va_D (fun _ => True) [(h0, .inr (11, [.ref h1, .int 3])), (h1, .inl (cc0, 6, .inl f0))] ∧ ns_F g (va_A [(h0, .inr (11, [.ref h1, .int 3])), (h1, .inl (cc0, 6, .inl f0))] sz) U U.heap)) (va_Qv (fun _ : Unit => True) (fun _ t => va_P (dC, dI) vwCl [(h0, .inr (11, [.ref h1, .int 4])), (h1, .inl (cc0, 6, .inl (upd (f0) 3 x0)))] t.heap ∧ va_K (dC, dI) vwCl [(cc0, .int)] t ∧ va_D (va_A [(h0, .inr (11, [.ref h1, .int 3])), (h1, .inl (cc0, 6, .inl f0))] sz) [(h0, .inr (11, [.ref h1, .int 4])), (h1, .inl (cc0, 6, .inl (upd (f0) 3 x0)))]) (va_A [(h0, .inr (11, [.ref h1, .int 3])), (h1, .inl (cc0, 6, .inl f0))] sz)) 0 0 (va_A [(h0, .inr (11, [.ref h1, .int 3])), (h1, .inl (cc0, 6, .inl f0))] sz) := by
  refine Met.ofW (cc := cX4_add) (maxL := 2) (ret := none) (by decide) rfl ?_
  intro p e s m args below meth c s₁ B hml hv
  obtain ⟨rfl, hsz, hP, hK, hD0, hF⟩ := hv
  have hx := B.exec
  have hb := B.bytes
  have hr := B.returns
  have hts := atoms_spec (ws := wbX4_add) B.pre
  have hta : ∀ w ∈ wsALL, w.before _ s = true := fun w h => hts w (List.mem_cons_of_mem _ h)
  have hown : s.vm.findClass RX4 = some m.cls := findClass_of_methodNamed B.named
  have hlocks := B.notSynchronized
  subst hsz
  have hD := hD0.self (sz := s.heap.size)
  generalize hAe : va_A [(h0, .inr (11, [.ref h1, .int 3])), (h1, .inl (cc0, 6, .inl f0))] s.heap.size = A at hD hF ⊢
  have hA : ∀ q : Nat, s.heap.size ≤ q → A q := fun q h => by rw [← hAe]; exact Or.inr h
  have hS : va_S A s.heap s.heap [] := va_S.rf
  have hP : va_P (dC, dI) vwCl [(h0, .inr (11, [.ref h1, .int 3])), (h1, .inl (cc0, 6, .inl f0))] s.heap := hP
  have hl := lv_entry ([.ref h0, .int x0]) (n := 2) (Nat.le_of_ble_eq_true rfl)
  rw [lg_entry_eq]
  generalize (lg_sl ([.ref h0, .int x0]) ++ List.replicate (2 - (lg_sl ([.ref h0, .int x0])).length) Slot.unset).toArray = ls at hl ⊢
  have hl : lv_has ls 2 [(0, .ref h0), (1, .int x0)] := hl
  refine lv_aload_n hx hb dX4_add_0 rfl (lv_at hl 0 rfl) ?_
  refine va_get (D := (dC, dI)) (ci := 11) (v := .int 3) (C := RX4) (T := TX4) (N := 2) hx hb hta naX4 hown hK hP 0 rfl rfl 1 (by decide) (hta _ wm14) (fun _ h9 => h9) rfl dX4_add_1 ?_
  refine lv_if_lt (tgt := 39) hx hb dX4_add_4 (by decide) (fun c1 => absurd c1 (by decide)) (fun c1 => ?_)
  refine lv_aload_n hx hb dX4_add_7 rfl (lv_at hl 0 rfl) ?_
  refine va_get (D := (dC, dI)) (ci := 11) (v := .int 3) (C := RX4) (T := TX4) (N := 2) hx hb hta naX4 hown hK hP 0 rfl rfl 1 (by decide) (hta _ wm14) (fun _ h9 => h9) rfl dX4_add_8 ?_
  refine lv_aload_n hx hb dX4_add_11 rfl (lv_at hl 0 rfl) ?_
  refine va_get (D := (dC, dI)) (ci := 11) (v := .ref h1) (C := RX4) (T := TX4) (N := 2) hx hb hta naX4 hown hK hP 0 rfl rfl 0 (by decide) (hta _ wm16) (fun _ h9 => h9) rfl dX4_add_12 ?_
  refine va_alen (v := 6) hx hb hK hP 1 0 rfl rfl (show Int32.ofNat 6 = 6 by decide) dX4_add_15 ?_
  refine lv_icmp_ge (tgt := 39) hx hb dX4_add_16 (by decide) (fun c2 => absurd c2 (by decide)) (fun c2 => ?_)
  refine lv_aload_n hx hb dX4_add_19 rfl (lv_at hl 0 rfl) ?_
  refine va_get (D := (dC, dI)) (ci := 11) (v := .ref h1) (C := RX4) (T := TX4) (N := 2) hx hb hta naX4 hown hK hP 0 rfl rfl 0 (by decide) (hta _ wm16) (fun _ h9 => h9) rfl dX4_add_20 ?_
  refine lv_aload_n hx hb dX4_add_23 rfl (lv_at hl 0 rfl) ?_
  refine va_get (D := (dC, dI)) (ci := 11) (v := .int 3) (C := RX4) (T := TX4) (N := 2) hx hb hta naX4 hown hK hP 0 rfl rfl 1 (by decide) (hta _ wm14) (fun _ h9 => h9) rfl dX4_add_24 ?_
  refine lv_iload_n hx hb dX4_add_27 rfl (lv_at hl 1 rfl) ?_
  refine va_iast hx hb hK hP hD hS 1 0 rfl rfl (vp_in_nI (n := 3) (by decide) (by decide)) dX4_add_28 (fun H locs hP hD hS => ?_)
  have hP : va_P (dC, dI) vwCl [(h0, .inr (11, [.ref h1, .int 3])), (h1, .inl (cc0, 6, .inl (upd (f0) 3 x0)))] H := hP
  have hD : va_D A [(h0, .inr (11, [.ref h1, .int 3])), (h1, .inl (cc0, 6, .inl (upd (f0) 3 x0)))] := hD
  refine lv_aload_n hx hb dX4_add_29 rfl (lv_at hl 0 rfl) ?_
  refine lv_dup hx hb dX4_add_30 rfl ?_
  refine va_get (D := (dC, dI)) (ci := 11) (v := .int 3) (C := RX4) (T := TX4) (N := 2) hx hb hta naX4 hown hK hP 0 rfl rfl 1 (by decide) (hta _ wm14) (fun _ h9 => h9) rfl dX4_add_31 ?_
  refine lv_iconst (v := 1) hx hb dX4_add_34 (by decide) ?_
  refine lv_iadd hx hb dX4_add_35 ?_
  refine lv_topi (fun y3 ey3 => ?_)
  obtain rfl : y3 = 4 := ey3.trans (by decide)
  refine va_put (D := (dC, dI)) (ci := 11) (v := .int 4) (ty := .int) (C := RX4) (T := TX4) (N := 2) hx hb hta naX4 tyX4 tyX4_ok nmX4 hown hK hP hD hS 0 rfl rfl 1 (by decide) (hta _ wm14) (fun _ h9 => h9) rfl (by decide +kernel) rfl rfl (Nat.le_of_ble_eq_true rfl) dX4_add_36 (fun H locs hP hD hS => ?_)
  have hP : va_P (dC, dI) vwCl [(h0, .inr (11, [.ref h1, .int 4])), (h1, .inl (cc0, 6, .inl (upd (f0) 3 x0)))] H := hP
  have hD : va_D A [(h0, .inr (11, [.ref h1, .int 4])), (h1, .inl (cc0, 6, .inl (upd (f0) 3 x0)))] := hD
  have hP9 := hP.sub (ws' := [(h0, .inr (11, [.ref h1, .int 4])), (h1, .inl (cc0, 6, .inl (upd (f0) 3 x0)))]) [0, 1] rfl
  have hD9 := hD.sub (ws' := [(h0, .inr (11, [.ref h1, .int 4])), (h1, .inl (cc0, 6, .inl (upd (f0) 3 x0)))]) [0, 1] (by decide) rfl
  have hK9 := hK.sub (tys' := [(cc0, .int)]) [0] rfl
  refine W.widen (k := 0) (n := 0) (Nat.le_of_ble_eq_true rfl) (Nat.le_of_ble_eq_true rfl) ?_
  exact W.vret hx hb hr (fun t ht hW => ⟨⟨(), rfl, trivial, by rw [ht]; exact hP9, va_K.moved hW.alike hK9, hD9⟩, hS.F ht⟩) hS.2.2 dX4_add_39
set_option maxHeartbeats 4000000 in
set_option maxRecDepth 100000 in
theorem kX4_add_38 (l : Launch) (dC : Nat → ClassId) (dI : Nat → Nat → Nat) (g : Nat → Nat) (sz : Nat) (h0 : Nat) (x0 : Int32) (h1 : Nat) (cc0 : ClassId) (f0 : Nat → Int32) (ex0 : (-1 : Int) ≤ x0.toInt ∧ x0.toInt ≤ (21 : Int)) : Met l yX4_add wbX4_add ({ frames := 0, cells := 0, slots := 0, locals := 0 }) (va_Pc [.ref h0, .int x0] (fun U => U.heap.size = sz ∧ va_P (dC, dI) vwCl [(h0, .inr (11, [.ref h1, .int 5])), (h1, .inl (cc0, 6, .inl f0))] U.heap ∧ va_K (dC, dI) vwCl [(cc0, .int)] U ∧ va_D (fun _ => True) [(h0, .inr (11, [.ref h1, .int 5])), (h1, .inl (cc0, 6, .inl f0))] ∧ ns_F g (va_A [(h0, .inr (11, [.ref h1, .int 5])), (h1, .inl (cc0, 6, .inl f0))] sz) U U.heap)) (va_Qv (fun _ : Unit => True) (fun _ t => va_P (dC, dI) vwCl [(h0, .inr (11, [.ref h1, .int 6])), (h1, .inl (cc0, 6, .inl (upd (f0) 5 x0)))] t.heap ∧ va_K (dC, dI) vwCl [(cc0, .int)] t ∧ va_D (va_A [(h0, .inr (11, [.ref h1, .int 5])), (h1, .inl (cc0, 6, .inl f0))] sz) [(h0, .inr (11, [.ref h1, .int 6])), (h1, .inl (cc0, 6, .inl (upd (f0) 5 x0)))]) (va_A [(h0, .inr (11, [.ref h1, .int 5])), (h1, .inl (cc0, 6, .inl f0))] sz)) 0 0 (va_A [(h0, .inr (11, [.ref h1, .int 5])), (h1, .inl (cc0, 6, .inl f0))] sz) := by
  refine Met.ofW (cc := cX4_add) (maxL := 2) (ret := none) (by decide) rfl ?_
  intro p e s m args below meth c s₁ B hml hv
  obtain ⟨rfl, hsz, hP, hK, hD0, hF⟩ := hv
  have hx := B.exec
  have hb := B.bytes
  have hr := B.returns
  have hts := atoms_spec (ws := wbX4_add) B.pre
  have hta : ∀ w ∈ wsALL, w.before _ s = true := fun w h => hts w (List.mem_cons_of_mem _ h)
  have hown : s.vm.findClass RX4 = some m.cls := findClass_of_methodNamed B.named
  have hlocks := B.notSynchronized
  subst hsz
  have hD := hD0.self (sz := s.heap.size)
  generalize hAe : va_A [(h0, .inr (11, [.ref h1, .int 5])), (h1, .inl (cc0, 6, .inl f0))] s.heap.size = A at hD hF ⊢
  have hA : ∀ q : Nat, s.heap.size ≤ q → A q := fun q h => by rw [← hAe]; exact Or.inr h
  have hS : va_S A s.heap s.heap [] := va_S.rf
  have hP : va_P (dC, dI) vwCl [(h0, .inr (11, [.ref h1, .int 5])), (h1, .inl (cc0, 6, .inl f0))] s.heap := hP
  have hl := lv_entry ([.ref h0, .int x0]) (n := 2) (Nat.le_of_ble_eq_true rfl)
  rw [lg_entry_eq]
  generalize (lg_sl ([.ref h0, .int x0]) ++ List.replicate (2 - (lg_sl ([.ref h0, .int x0])).length) Slot.unset).toArray = ls at hl ⊢
  have hl : lv_has ls 2 [(0, .ref h0), (1, .int x0)] := hl
  refine lv_aload_n hx hb dX4_add_0 rfl (lv_at hl 0 rfl) ?_
  refine va_get (D := (dC, dI)) (ci := 11) (v := .int 5) (C := RX4) (T := TX4) (N := 2) hx hb hta naX4 hown hK hP 0 rfl rfl 1 (by decide) (hta _ wm14) (fun _ h9 => h9) rfl dX4_add_1 ?_
  refine lv_if_lt (tgt := 39) hx hb dX4_add_4 (by decide) (fun c1 => absurd c1 (by decide)) (fun c1 => ?_)
  refine lv_aload_n hx hb dX4_add_7 rfl (lv_at hl 0 rfl) ?_
  refine va_get (D := (dC, dI)) (ci := 11) (v := .int 5) (C := RX4) (T := TX4) (N := 2) hx hb hta naX4 hown hK hP 0 rfl rfl 1 (by decide) (hta _ wm14) (fun _ h9 => h9) rfl dX4_add_8 ?_
  refine lv_aload_n hx hb dX4_add_11 rfl (lv_at hl 0 rfl) ?_
  refine va_get (D := (dC, dI)) (ci := 11) (v := .ref h1) (C := RX4) (T := TX4) (N := 2) hx hb hta naX4 hown hK hP 0 rfl rfl 0 (by decide) (hta _ wm16) (fun _ h9 => h9) rfl dX4_add_12 ?_
  refine va_alen (v := 6) hx hb hK hP 1 0 rfl rfl (show Int32.ofNat 6 = 6 by decide) dX4_add_15 ?_
  refine lv_icmp_ge (tgt := 39) hx hb dX4_add_16 (by decide) (fun c2 => absurd c2 (by decide)) (fun c2 => ?_)
  refine lv_aload_n hx hb dX4_add_19 rfl (lv_at hl 0 rfl) ?_
  refine va_get (D := (dC, dI)) (ci := 11) (v := .ref h1) (C := RX4) (T := TX4) (N := 2) hx hb hta naX4 hown hK hP 0 rfl rfl 0 (by decide) (hta _ wm16) (fun _ h9 => h9) rfl dX4_add_20 ?_
  refine lv_aload_n hx hb dX4_add_23 rfl (lv_at hl 0 rfl) ?_
  refine va_get (D := (dC, dI)) (ci := 11) (v := .int 5) (C := RX4) (T := TX4) (N := 2) hx hb hta naX4 hown hK hP 0 rfl rfl 1 (by decide) (hta _ wm14) (fun _ h9 => h9) rfl dX4_add_24 ?_
  refine lv_iload_n hx hb dX4_add_27 rfl (lv_at hl 1 rfl) ?_
  refine va_iast hx hb hK hP hD hS 1 0 rfl rfl (vp_in_nI (n := 5) (by decide) (by decide)) dX4_add_28 (fun H locs hP hD hS => ?_)
  have hP : va_P (dC, dI) vwCl [(h0, .inr (11, [.ref h1, .int 5])), (h1, .inl (cc0, 6, .inl (upd (f0) 5 x0)))] H := hP
  have hD : va_D A [(h0, .inr (11, [.ref h1, .int 5])), (h1, .inl (cc0, 6, .inl (upd (f0) 5 x0)))] := hD
  refine lv_aload_n hx hb dX4_add_29 rfl (lv_at hl 0 rfl) ?_
  refine lv_dup hx hb dX4_add_30 rfl ?_
  refine va_get (D := (dC, dI)) (ci := 11) (v := .int 5) (C := RX4) (T := TX4) (N := 2) hx hb hta naX4 hown hK hP 0 rfl rfl 1 (by decide) (hta _ wm14) (fun _ h9 => h9) rfl dX4_add_31 ?_
  refine lv_iconst (v := 1) hx hb dX4_add_34 (by decide) ?_
  refine lv_iadd hx hb dX4_add_35 ?_
  refine lv_topi (fun y3 ey3 => ?_)
  obtain rfl : y3 = 6 := ey3.trans (by decide)
  refine va_put (D := (dC, dI)) (ci := 11) (v := .int 6) (ty := .int) (C := RX4) (T := TX4) (N := 2) hx hb hta naX4 tyX4 tyX4_ok nmX4 hown hK hP hD hS 0 rfl rfl 1 (by decide) (hta _ wm14) (fun _ h9 => h9) rfl (by decide +kernel) rfl rfl (Nat.le_of_ble_eq_true rfl) dX4_add_36 (fun H locs hP hD hS => ?_)
  have hP : va_P (dC, dI) vwCl [(h0, .inr (11, [.ref h1, .int 6])), (h1, .inl (cc0, 6, .inl (upd (f0) 5 x0)))] H := hP
  have hD : va_D A [(h0, .inr (11, [.ref h1, .int 6])), (h1, .inl (cc0, 6, .inl (upd (f0) 5 x0)))] := hD
  have hP9 := hP.sub (ws' := [(h0, .inr (11, [.ref h1, .int 6])), (h1, .inl (cc0, 6, .inl (upd (f0) 5 x0)))]) [0, 1] rfl
  have hD9 := hD.sub (ws' := [(h0, .inr (11, [.ref h1, .int 6])), (h1, .inl (cc0, 6, .inl (upd (f0) 5 x0)))]) [0, 1] (by decide) rfl
  have hK9 := hK.sub (tys' := [(cc0, .int)]) [0] rfl
  refine W.widen (k := 0) (n := 0) (Nat.le_of_ble_eq_true rfl) (Nat.le_of_ble_eq_true rfl) ?_
  exact W.vret hx hb hr (fun t ht hW => ⟨⟨(), rfl, trivial, by rw [ht]; exact hP9, va_K.moved hW.alike hK9, hD9⟩, hS.F ht⟩) hS.2.2 dX4_add_39
set_option maxHeartbeats 4000000 in
set_option maxRecDepth 100000 in
theorem kX4_add_26 (l : Launch) (dC : Nat → ClassId) (dI : Nat → Nat → Nat) (g : Nat → Nat) (sz : Nat) (h0 : Nat) (x0 : Int32) (h1 : Nat) (cc0 : ClassId) (f0 : Nat → Int32) : Met l yX4_add wbX4_add ({ frames := 0, cells := 0, slots := 0, locals := 0 }) (va_Pc [.ref h0, .int x0] (fun U => U.heap.size = sz ∧ va_P (dC, dI) vwCl [(h0, .inr (11, [.ref h1, .int 4])), (h1, .inl (cc0, 6, .inl f0))] U.heap ∧ va_K (dC, dI) vwCl [(cc0, .int)] U ∧ va_D (fun _ => True) [(h0, .inr (11, [.ref h1, .int 4])), (h1, .inl (cc0, 6, .inl f0))] ∧ ns_F g (va_A [(h0, .inr (11, [.ref h1, .int 4])), (h1, .inl (cc0, 6, .inl f0))] sz) U U.heap)) (va_Qv (fun _ : Unit => True) (fun _ t => va_P (dC, dI) vwCl [(h0, .inr (11, [.ref h1, .int 5])), (h1, .inl (cc0, 6, .inl (upd (f0) 4 x0)))] t.heap ∧ va_K (dC, dI) vwCl [(cc0, .int)] t ∧ va_D (va_A [(h0, .inr (11, [.ref h1, .int 4])), (h1, .inl (cc0, 6, .inl f0))] sz) [(h0, .inr (11, [.ref h1, .int 5])), (h1, .inl (cc0, 6, .inl (upd (f0) 4 x0)))]) (va_A [(h0, .inr (11, [.ref h1, .int 4])), (h1, .inl (cc0, 6, .inl f0))] sz)) 0 0 (va_A [(h0, .inr (11, [.ref h1, .int 4])), (h1, .inl (cc0, 6, .inl f0))] sz) := by
  refine Met.ofW (cc := cX4_add) (maxL := 2) (ret := none) (by decide) rfl ?_
  intro p e s m args below meth c s₁ B hml hv
  obtain ⟨rfl, hsz, hP, hK, hD0, hF⟩ := hv
  have hx := B.exec
  have hb := B.bytes
  have hr := B.returns
  have hts := atoms_spec (ws := wbX4_add) B.pre
  have hta : ∀ w ∈ wsALL, w.before _ s = true := fun w h => hts w (List.mem_cons_of_mem _ h)
  have hown : s.vm.findClass RX4 = some m.cls := findClass_of_methodNamed B.named
  have hlocks := B.notSynchronized
  subst hsz
  have hD := hD0.self (sz := s.heap.size)
  generalize hAe : va_A [(h0, .inr (11, [.ref h1, .int 4])), (h1, .inl (cc0, 6, .inl f0))] s.heap.size = A at hD hF ⊢
  have hA : ∀ q : Nat, s.heap.size ≤ q → A q := fun q h => by rw [← hAe]; exact Or.inr h
  have hS : va_S A s.heap s.heap [] := va_S.rf
  have hP : va_P (dC, dI) vwCl [(h0, .inr (11, [.ref h1, .int 4])), (h1, .inl (cc0, 6, .inl f0))] s.heap := hP
  have hl := lv_entry ([.ref h0, .int x0]) (n := 2) (Nat.le_of_ble_eq_true rfl)
  rw [lg_entry_eq]
  generalize (lg_sl ([.ref h0, .int x0]) ++ List.replicate (2 - (lg_sl ([.ref h0, .int x0])).length) Slot.unset).toArray = ls at hl ⊢
  have hl : lv_has ls 2 [(0, .ref h0), (1, .int x0)] := hl
  refine lv_aload_n hx hb dX4_add_0 rfl (lv_at hl 0 rfl) ?_
  refine va_get (D := (dC, dI)) (ci := 11) (v := .int 4) (C := RX4) (T := TX4) (N := 2) hx hb hta naX4 hown hK hP 0 rfl rfl 1 (by decide) (hta _ wm14) (fun _ h9 => h9) rfl dX4_add_1 ?_
  refine lv_if_lt (tgt := 39) hx hb dX4_add_4 (by decide) (fun c1 => absurd c1 (by decide)) (fun c1 => ?_)
  refine lv_aload_n hx hb dX4_add_7 rfl (lv_at hl 0 rfl) ?_
  refine va_get (D := (dC, dI)) (ci := 11) (v := .int 4) (C := RX4) (T := TX4) (N := 2) hx hb hta naX4 hown hK hP 0 rfl rfl 1 (by decide) (hta _ wm14) (fun _ h9 => h9) rfl dX4_add_8 ?_
  refine lv_aload_n hx hb dX4_add_11 rfl (lv_at hl 0 rfl) ?_
  refine va_get (D := (dC, dI)) (ci := 11) (v := .ref h1) (C := RX4) (T := TX4) (N := 2) hx hb hta naX4 hown hK hP 0 rfl rfl 0 (by decide) (hta _ wm16) (fun _ h9 => h9) rfl dX4_add_12 ?_
  refine va_alen (v := 6) hx hb hK hP 1 0 rfl rfl (show Int32.ofNat 6 = 6 by decide) dX4_add_15 ?_
  refine lv_icmp_ge (tgt := 39) hx hb dX4_add_16 (by decide) (fun c2 => absurd c2 (by decide)) (fun c2 => ?_)
  refine lv_aload_n hx hb dX4_add_19 rfl (lv_at hl 0 rfl) ?_
  refine va_get (D := (dC, dI)) (ci := 11) (v := .ref h1) (C := RX4) (T := TX4) (N := 2) hx hb hta naX4 hown hK hP 0 rfl rfl 0 (by decide) (hta _ wm16) (fun _ h9 => h9) rfl dX4_add_20 ?_
  refine lv_aload_n hx hb dX4_add_23 rfl (lv_at hl 0 rfl) ?_
  refine va_get (D := (dC, dI)) (ci := 11) (v := .int 4) (C := RX4) (T := TX4) (N := 2) hx hb hta naX4 hown hK hP 0 rfl rfl 1 (by decide) (hta _ wm14) (fun _ h9 => h9) rfl dX4_add_24 ?_
  refine lv_iload_n hx hb dX4_add_27 rfl (lv_at hl 1 rfl) ?_
  refine va_iast hx hb hK hP hD hS 1 0 rfl rfl (vp_in_nI (n := 4) (by decide) (by decide)) dX4_add_28 (fun H locs hP hD hS => ?_)
  have hP : va_P (dC, dI) vwCl [(h0, .inr (11, [.ref h1, .int 4])), (h1, .inl (cc0, 6, .inl (upd (f0) 4 x0)))] H := hP
  have hD : va_D A [(h0, .inr (11, [.ref h1, .int 4])), (h1, .inl (cc0, 6, .inl (upd (f0) 4 x0)))] := hD
  refine lv_aload_n hx hb dX4_add_29 rfl (lv_at hl 0 rfl) ?_
  refine lv_dup hx hb dX4_add_30 rfl ?_
  refine va_get (D := (dC, dI)) (ci := 11) (v := .int 4) (C := RX4) (T := TX4) (N := 2) hx hb hta naX4 hown hK hP 0 rfl rfl 1 (by decide) (hta _ wm14) (fun _ h9 => h9) rfl dX4_add_31 ?_
  refine lv_iconst (v := 1) hx hb dX4_add_34 (by decide) ?_
  refine lv_iadd hx hb dX4_add_35 ?_
  refine lv_topi (fun y3 ey3 => ?_)
  obtain rfl : y3 = 5 := ey3.trans (by decide)
  refine va_put (D := (dC, dI)) (ci := 11) (v := .int 5) (ty := .int) (C := RX4) (T := TX4) (N := 2) hx hb hta naX4 tyX4 tyX4_ok nmX4 hown hK hP hD hS 0 rfl rfl 1 (by decide) (hta _ wm14) (fun _ h9 => h9) rfl (by decide +kernel) rfl rfl (Nat.le_of_ble_eq_true rfl) dX4_add_36 (fun H locs hP hD hS => ?_)
  have hP : va_P (dC, dI) vwCl [(h0, .inr (11, [.ref h1, .int 5])), (h1, .inl (cc0, 6, .inl (upd (f0) 4 x0)))] H := hP
  have hD : va_D A [(h0, .inr (11, [.ref h1, .int 5])), (h1, .inl (cc0, 6, .inl (upd (f0) 4 x0)))] := hD
  have hP9 := hP.sub (ws' := [(h0, .inr (11, [.ref h1, .int 5])), (h1, .inl (cc0, 6, .inl (upd (f0) 4 x0)))]) [0, 1] rfl
  have hD9 := hD.sub (ws' := [(h0, .inr (11, [.ref h1, .int 5])), (h1, .inl (cc0, 6, .inl (upd (f0) 4 x0)))]) [0, 1] (by decide) rfl
  have hK9 := hK.sub (tys' := [(cc0, .int)]) [0] rfl
  refine W.widen (k := 0) (n := 0) (Nat.le_of_ble_eq_true rfl) (Nat.le_of_ble_eq_true rfl) ?_
  exact W.vret hx hb hr (fun t ht hW => ⟨⟨(), rfl, trivial, by rw [ht]; exact hP9, va_K.moved hW.alike hK9, hD9⟩, hS.F ht⟩) hS.2.2 dX4_add_39
set_option maxHeartbeats 4000000 in
set_option maxRecDepth 100000 in
theorem kX4_get_32 (l : Launch) (dC : Nat → ClassId) (dI : Nat → Nat → Nat) (g : Nat → Nat) (sz : Nat) (h0 : Nat) (h1 : Nat) (cc0 : ClassId) (x0 : Int32) (x1 : Int32) (x2 : Int32) (x3 : Int32) (x4 : Int32) (x5 : Int32) (ex0 : (-1 : Int) ≤ x0.toInt ∧ x0.toInt ≤ (21 : Int)) (ex1 : (-1 : Int) ≤ x1.toInt ∧ x1.toInt ≤ (21 : Int)) (ex2 : (-1 : Int) ≤ x2.toInt ∧ x2.toInt ≤ (21 : Int)) (ex3 : (-1 : Int) ≤ x3.toInt ∧ x3.toInt ≤ (21 : Int)) (ex4 : (-1 : Int) ≤ x4.toInt ∧ x4.toInt ≤ (21 : Int)) (ex5 : (22 : Int) ≤ x5.toInt ∧ x5.toInt ≤ (2147483647 : Int)) : Met l yX4_get wbX4_get ({ frames := 0, cells := 0, slots := 0, locals := 0 }) (va_Pc [.ref h0, .int 4] (fun U => U.heap.size = sz ∧ va_P (dC, dI) vwCl [(h0, .inr (11, [.ref h1, .int 6])), (h1, .inl (cc0, 6, .inl (upd (upd (upd (upd (upd (upd (fun _ => 0) 0 x0) 1 x1) 2 x2) 3 x3) 4 x4) 5 x5)))] U.heap ∧ va_K (dC, dI) vwCl [(cc0, .int)] U ∧ va_D (fun _ => True) [(h0, .inr (11, [.ref h1, .int 6])), (h1, .inl (cc0, 6, .inl (upd (upd (upd (upd (upd (upd (fun _ => 0) 0 x0) 1 x1) 2 x2) 3 x3) 4 x4) 5 x5)))] ∧ ns_F g (va_A [(h0, .inr (11, [.ref h1, .int 6])), (h1, .inl (cc0, 6, .inl (upd (upd (upd (upd (upd (upd (fun _ => 0) 0 x0) 1 x1) 2 x2) 3 x3) 4 x4) 5 x5)))] sz) U U.heap)) (va_Qi (fun (r : Int32) (_ : Unit) => r = x4) (fun _ t => va_P (dC, dI) vwCl [(h0, .inr (11, [.ref h1, .int 6])), (h1, .inl (cc0, 6, .inl (upd (upd (upd (upd (upd (upd (fun _ => 0) 0 x0) 1 x1) 2 x2) 3 x3) 4 x4) 5 x5)))] t.heap ∧ va_K (dC, dI) vwCl [(cc0, .int)] t ∧ va_D (va_A [(h0, .inr (11, [.ref h1, .int 6])), (h1, .inl (cc0, 6, .inl (upd (upd (upd (upd (upd (upd (fun _ => 0) 0 x0) 1 x1) 2 x2) 3 x3) 4 x4) 5 x5)))] sz) [(h0, .inr (11, [.ref h1, .int 6])), (h1, .inl (cc0, 6, .inl (upd (upd (upd (upd (upd (upd (fun _ => 0) 0 x0) 1 x1) 2 x2) 3 x3) 4 x4) 5 x5)))]) (va_A [(h0, .inr (11, [.ref h1, .int 6])), (h1, .inl (cc0, 6, .inl (upd (upd (upd (upd (upd (upd (fun _ => 0) 0 x0) 1 x1) 2 x2) 3 x3) 4 x4) 5 x5)))] sz)) 0 0 (va_A [(h0, .inr (11, [.ref h1, .int 6])), (h1, .inl (cc0, 6, .inl (upd (upd (upd (upd (upd (upd (fun _ => 0) 0 x0) 1 x1) 2 x2) 3 x3) 4 x4) 5 x5)))] sz) := by
  refine Met.ofW (cc := cX4_get) (maxL := 2) (ret := (some .int)) (by decide) rfl ?_
  intro p e s m args below meth c s₁ B hml hv
  obtain ⟨rfl, hsz, hP, hK, hD0, hF⟩ := hv
  have hx := B.exec
  have hb := B.bytes
  have hr := B.returns
  have hts := atoms_spec (ws := wbX4_get) B.pre
  have hta : ∀ w ∈ wsALL, w.before _ s = true := fun w h => hts w (List.mem_cons_of_mem _ h)
  have hown : s.vm.findClass RX4 = some m.cls := findClass_of_methodNamed B.named
  have hlocks := B.notSynchronized
  subst hsz
  have hD := hD0.self (sz := s.heap.size)
  generalize hAe : va_A [(h0, .inr (11, [.ref h1, .int 6])), (h1, .inl (cc0, 6, .inl (upd (upd (upd (upd (upd (upd (fun _ => 0) 0 x0) 1 x1) 2 x2) 3 x3) 4 x4) 5 x5)))] s.heap.size = A at hD hF ⊢
  have hA : ∀ q : Nat, s.heap.size ≤ q → A q := fun q h => by rw [← hAe]; exact Or.inr h
  have hS : va_S A s.heap s.heap [] := va_S.rf
  have hP : va_P (dC, dI) vwCl [(h0, .inr (11, [.ref h1, .int 6])), (h1, .inl (cc0, 6, .inl (upd (upd (upd (upd (upd (upd (fun _ => 0) 0 x0) 1 x1) 2 x2) 3 x3) 4 x4) 5 x5)))] s.heap := hP
  have hl := lv_entry ([.ref h0, .int 4]) (n := 2) (Nat.le_of_ble_eq_true rfl)
  rw [lg_entry_eq]
  generalize (lg_sl ([.ref h0, .int 4]) ++ List.replicate (2 - (lg_sl ([.ref h0, .int 4])).length) Slot.unset).toArray = ls at hl ⊢
  have hl : lv_has ls 2 [(0, .ref h0), (1, .int 4)] := hl
  refine lv_iload_n hx hb dX4_get_0 rfl (lv_at hl 1 rfl) ?_
  refine lv_if_lt (tgt := 30) hx hb dX4_get_1 (by decide) (fun c1 => absurd c1 (by decide)) (fun c1 => ?_)
  refine lv_iload_n hx hb dX4_get_4 rfl (lv_at hl 1 rfl) ?_
  refine lv_aload_n hx hb dX4_get_5 rfl (lv_at hl 0 rfl) ?_
  refine va_get (D := (dC, dI)) (ci := 11) (v := .int 6) (C := RX4) (T := TX4) (N := 2) hx hb hta naX4 hown hK hP 0 rfl rfl 1 (by decide) (hta _ wm14) (fun _ h9 => h9) rfl dX4_get_6 ?_
  refine lv_icmp_ge (tgt := 30) hx hb dX4_get_9 (by decide) (fun c2 => absurd c2 (by decide)) (fun c2 => ?_)
  refine lv_iload_n hx hb dX4_get_12 rfl (lv_at hl 1 rfl) ?_
  refine lv_aload_n hx hb dX4_get_13 rfl (lv_at hl 0 rfl) ?_
  refine va_get (D := (dC, dI)) (ci := 11) (v := .ref h1) (C := RX4) (T := TX4) (N := 2) hx hb hta naX4 hown hK hP 0 rfl rfl 0 (by decide) (hta _ wm16) (fun _ h9 => h9) rfl dX4_get_14 ?_
  refine va_alen (v := 6) hx hb hK hP 1 0 rfl rfl (show Int32.ofNat 6 = 6 by decide) dX4_get_17 ?_
  refine lv_icmp_ge (tgt := 30) hx hb dX4_get_18 (by decide) (fun c3 => absurd c3 (by decide)) (fun c3 => ?_)
  refine lv_aload_n hx hb dX4_get_21 rfl (lv_at hl 0 rfl) ?_
  refine va_get (D := (dC, dI)) (ci := 11) (v := .ref h1) (C := RX4) (T := TX4) (N := 2) hx hb hta naX4 hown hK hP 0 rfl rfl 0 (by decide) (hta _ wm16) (fun _ h9 => h9) rfl dX4_get_22 ?_
  refine lv_iload_n hx hb dX4_get_25 rfl (lv_at hl 1 rfl) ?_
  refine va_iald hx hb hK hP 1 0 rfl rfl (vp_in_nI (n := 4) (by decide) (by decide)) dX4_get_26 ?_
  refine lv_topi (fun y4 ey4 => ?_)
  obtain rfl : x4 = y4 := ey4.symm
  refine lv_goto (tgt := 31) hx hb dX4_get_27 (by decide) ?_
  have hP9 := hP.sub (ws' := [(h0, .inr (11, [.ref h1, .int 6])), (h1, .inl (cc0, 6, .inl (upd (upd (upd (upd (upd (upd (fun _ => 0) 0 x0) 1 x1) 2 x2) 3 x3) 4 x4) 5 x5)))]) [0, 1] rfl
  have hD9 := hD.sub (ws' := [(h0, .inr (11, [.ref h1, .int 6])), (h1, .inl (cc0, 6, .inl (upd (upd (upd (upd (upd (upd (fun _ => 0) 0 x0) 1 x1) 2 x2) 3 x3) 4 x4) 5 x5)))]) [0, 1] (by decide) rfl
  have hK9 := hK.sub (tys' := [(cc0, .int)]) [0] rfl
  refine W.widen (k := 0) (n := 0) (Nat.le_of_ble_eq_true rfl) (Nat.le_of_ble_eq_true rfl) ?_
  exact W.iret (v := x4) hx hb hr (fun t ht hW => ⟨⟨_, (), rfl, rfl, by rw [ht]; exact hP9, va_K.moved hW.alike hK9, hD9⟩, hS.F ht⟩) hS.2.2 dX4_get_31
set_option maxHeartbeats 4000000 in
set_option maxRecDepth 100000 in
theorem kX4_get_35 (l : Launch) (dC : Nat → ClassId) (dI : Nat → Nat → Nat) (g : Nat → Nat) (sz : Nat) (h0 : Nat) (h1 : Nat) (cc0 : ClassId) (x0 : Int32) (x1 : Int32) (x2 : Int32) (x3 : Int32) (x4 : Int32) (x5 : Int32) (ex0 : (-1 : Int) ≤ x0.toInt ∧ x0.toInt ≤ (21 : Int)) (ex1 : (-1 : Int) ≤ x1.toInt ∧ x1.toInt ≤ (21 : Int)) (ex2 : (-1 : Int) ≤ x2.toInt ∧ x2.toInt ≤ (21 : Int)) (ex3 : (-1 : Int) ≤ x3.toInt ∧ x3.toInt ≤ (21 : Int)) (ex4 : (22 : Int) ≤ x4.toInt ∧ x4.toInt ≤ (2147483647 : Int)) : Met l yX4_get wbX4_get ({ frames := 0, cells := 0, slots := 0, locals := 0 }) (va_Pc [.ref h0, .int 1] (fun U => U.heap.size = sz ∧ va_P (dC, dI) vwCl [(h0, .inr (11, [.ref h1, .int 6])), (h1, .inl (cc0, 6, .inl (upd (upd (upd (upd (upd (upd (fun _ => 0) 0 x0) 1 x1) 2 x2) 3 x3) 4 x4) 5 x5)))] U.heap ∧ va_K (dC, dI) vwCl [(cc0, .int)] U ∧ va_D (fun _ => True) [(h0, .inr (11, [.ref h1, .int 6])), (h1, .inl (cc0, 6, .inl (upd (upd (upd (upd (upd (upd (fun _ => 0) 0 x0) 1 x1) 2 x2) 3 x3) 4 x4) 5 x5)))] ∧ ns_F g (va_A [(h0, .inr (11, [.ref h1, .int 6])), (h1, .inl (cc0, 6, .inl (upd (upd (upd (upd (upd (upd (fun _ => 0) 0 x0) 1 x1) 2 x2) 3 x3) 4 x4) 5 x5)))] sz) U U.heap)) (va_Qi (fun (r : Int32) (_ : Unit) => r = x1) (fun _ t => va_P (dC, dI) vwCl [(h0, .inr (11, [.ref h1, .int 6])), (h1, .inl (cc0, 6, .inl (upd (upd (upd (upd (upd (upd (fun _ => 0) 0 x0) 1 x1) 2 x2) 3 x3) 4 x4) 5 x5)))] t.heap ∧ va_K (dC, dI) vwCl [(cc0, .int)] t ∧ va_D (va_A [(h0, .inr (11, [.ref h1, .int 6])), (h1, .inl (cc0, 6, .inl (upd (upd (upd (upd (upd (upd (fun _ => 0) 0 x0) 1 x1) 2 x2) 3 x3) 4 x4) 5 x5)))] sz) [(h0, .inr (11, [.ref h1, .int 6])), (h1, .inl (cc0, 6, .inl (upd (upd (upd (upd (upd (upd (fun _ => 0) 0 x0) 1 x1) 2 x2) 3 x3) 4 x4) 5 x5)))]) (va_A [(h0, .inr (11, [.ref h1, .int 6])), (h1, .inl (cc0, 6, .inl (upd (upd (upd (upd (upd (upd (fun _ => 0) 0 x0) 1 x1) 2 x2) 3 x3) 4 x4) 5 x5)))] sz)) 0 0 (va_A [(h0, .inr (11, [.ref h1, .int 6])), (h1, .inl (cc0, 6, .inl (upd (upd (upd (upd (upd (upd (fun _ => 0) 0 x0) 1 x1) 2 x2) 3 x3) 4 x4) 5 x5)))] sz) := by
  refine Met.ofW (cc := cX4_get) (maxL := 2) (ret := (some .int)) (by decide) rfl ?_
  intro p e s m args below meth c s₁ B hml hv
  obtain ⟨rfl, hsz, hP, hK, hD0, hF⟩ := hv
  have hx := B.exec
  have hb := B.bytes
  have hr := B.returns
  have hts := atoms_spec (ws := wbX4_get) B.pre
  have hta : ∀ w ∈ wsALL, w.before _ s = true := fun w h => hts w (List.mem_cons_of_mem _ h)
  have hown : s.vm.findClass RX4 = some m.cls := findClass_of_methodNamed B.named
  have hlocks := B.notSynchronized
  subst hsz
  have hD := hD0.self (sz := s.heap.size)
  generalize hAe : va_A [(h0, .inr (11, [.ref h1, .int 6])), (h1, .inl (cc0, 6, .inl (upd (upd (upd (upd (upd (upd (fun _ => 0) 0 x0) 1 x1) 2 x2) 3 x3) 4 x4) 5 x5)))] s.heap.size = A at hD hF ⊢
  have hA : ∀ q : Nat, s.heap.size ≤ q → A q := fun q h => by rw [← hAe]; exact Or.inr h
  have hS : va_S A s.heap s.heap [] := va_S.rf
  have hP : va_P (dC, dI) vwCl [(h0, .inr (11, [.ref h1, .int 6])), (h1, .inl (cc0, 6, .inl (upd (upd (upd (upd (upd (upd (fun _ => 0) 0 x0) 1 x1) 2 x2) 3 x3) 4 x4) 5 x5)))] s.heap := hP
  have hl := lv_entry ([.ref h0, .int 1]) (n := 2) (Nat.le_of_ble_eq_true rfl)
  rw [lg_entry_eq]
  generalize (lg_sl ([.ref h0, .int 1]) ++ List.replicate (2 - (lg_sl ([.ref h0, .int 1])).length) Slot.unset).toArray = ls at hl ⊢
  have hl : lv_has ls 2 [(0, .ref h0), (1, .int 1)] := hl
  refine lv_iload_n hx hb dX4_get_0 rfl (lv_at hl 1 rfl) ?_
  refine lv_if_lt (tgt := 30) hx hb dX4_get_1 (by decide) (fun c1 => absurd c1 (by decide)) (fun c1 => ?_)
  refine lv_iload_n hx hb dX4_get_4 rfl (lv_at hl 1 rfl) ?_
  refine lv_aload_n hx hb dX4_get_5 rfl (lv_at hl 0 rfl) ?_
  refine va_get (D := (dC, dI)) (ci := 11) (v := .int 6) (C := RX4) (T := TX4) (N := 2) hx hb hta naX4 hown hK hP 0 rfl rfl 1 (by decide) (hta _ wm14) (fun _ h9 => h9) rfl dX4_get_6 ?_
  refine lv_icmp_ge (tgt := 30) hx hb dX4_get_9 (by decide) (fun c2 => absurd c2 (by decide)) (fun c2 => ?_)
  refine lv_iload_n hx hb dX4_get_12 rfl (lv_at hl 1 rfl) ?_
  refine lv_aload_n hx hb dX4_get_13 rfl (lv_at hl 0 rfl) ?_
  refine va_get (D := (dC, dI)) (ci := 11) (v := .ref h1) (C := RX4) (T := TX4) (N := 2) hx hb hta naX4 hown hK hP 0 rfl rfl 0 (by decide) (hta _ wm16) (fun _ h9 => h9) rfl dX4_get_14 ?_
  refine va_alen (v := 6) hx hb hK hP 1 0 rfl rfl (show Int32.ofNat 6 = 6 by decide) dX4_get_17 ?_
  refine lv_icmp_ge (tgt := 30) hx hb dX4_get_18 (by decide) (fun c3 => absurd c3 (by decide)) (fun c3 => ?_)
  refine lv_aload_n hx hb dX4_get_21 rfl (lv_at hl 0 rfl) ?_
  refine va_get (D := (dC, dI)) (ci := 11) (v := .ref h1) (C := RX4) (T := TX4) (N := 2) hx hb hta naX4 hown hK hP 0 rfl rfl 0 (by decide) (hta _ wm16) (fun _ h9 => h9) rfl dX4_get_22 ?_
  refine lv_iload_n hx hb dX4_get_25 rfl (lv_at hl 1 rfl) ?_
  refine va_iald hx hb hK hP 1 0 rfl rfl (vp_in_nI (n := 1) (by decide) (by decide)) dX4_get_26 ?_
  refine lv_topi (fun y4 ey4 => ?_)
  obtain rfl : x1 = y4 := ey4.symm
  refine lv_goto (tgt := 31) hx hb dX4_get_27 (by decide) ?_
  have hP9 := hP.sub (ws' := [(h0, .inr (11, [.ref h1, .int 6])), (h1, .inl (cc0, 6, .inl (upd (upd (upd (upd (upd (upd (fun _ => 0) 0 x0) 1 x1) 2 x2) 3 x3) 4 x4) 5 x5)))]) [0, 1] rfl
  have hD9 := hD.sub (ws' := [(h0, .inr (11, [.ref h1, .int 6])), (h1, .inl (cc0, 6, .inl (upd (upd (upd (upd (upd (upd (fun _ => 0) 0 x0) 1 x1) 2 x2) 3 x3) 4 x4) 5 x5)))]) [0, 1] (by decide) rfl
  have hK9 := hK.sub (tys' := [(cc0, .int)]) [0] rfl
  refine W.widen (k := 0) (n := 0) (Nat.le_of_ble_eq_true rfl) (Nat.le_of_ble_eq_true rfl) ?_
  exact W.iret (v := x1) hx hb hr (fun t ht hW => ⟨⟨_, (), rfl, rfl, by rw [ht]; exact hP9, va_K.moved hW.alike hK9, hD9⟩, hS.F ht⟩) hS.2.2 dX4_get_31
set_option maxHeartbeats 4000000 in
set_option maxRecDepth 100000 in
theorem kX4_get_6 (l : Launch) (dC : Nat → ClassId) (dI : Nat → Nat → Nat) (g : Nat → Nat) (sz : Nat) (h0 : Nat) (h1 : Nat) (cc0 : ClassId) (x0 : Int32) (x1 : Int32) (x2 : Int32) (x3 : Int32) (x4 : Int32) (x5 : Int32) (ex0 : (-1 : Int) ≤ x0.toInt ∧ x0.toInt ≤ (21 : Int)) (ex1 : (-1 : Int) ≤ x1.toInt ∧ x1.toInt ≤ (21 : Int)) (ex2 : (-2147483648 : Int) ≤ x2.toInt ∧ x2.toInt ≤ (-2 : Int)) : Met l yX4_get wbX4_get ({ frames := 0, cells := 0, slots := 0, locals := 0 }) (va_Pc [.ref h0, .int 2] (fun U => U.heap.size = sz ∧ va_P (dC, dI) vwCl [(h0, .inr (11, [.ref h1, .int 6])), (h1, .inl (cc0, 6, .inl (upd (upd (upd (upd (upd (upd (fun _ => 0) 0 x0) 1 x1) 2 x2) 3 x3) 4 x4) 5 x5)))] U.heap ∧ va_K (dC, dI) vwCl [(cc0, .int)] U ∧ va_D (fun _ => True) [(h0, .inr (11, [.ref h1, .int 6])), (h1, .inl (cc0, 6, .inl (upd (upd (upd (upd (upd (upd (fun _ => 0) 0 x0) 1 x1) 2 x2) 3 x3) 4 x4) 5 x5)))] ∧ ns_F g (va_A [(h0, .inr (11, [.ref h1, .int 6])), (h1, .inl (cc0, 6, .inl (upd (upd (upd (upd (upd (upd (fun _ => 0) 0 x0) 1 x1) 2 x2) 3 x3) 4 x4) 5 x5)))] sz) U U.heap)) (va_Qi (fun (r : Int32) (_ : Unit) => r = x2) (fun _ t => va_P (dC, dI) vwCl [(h0, .inr (11, [.ref h1, .int 6])), (h1, .inl (cc0, 6, .inl (upd (upd (upd (upd (upd (upd (fun _ => 0) 0 x0) 1 x1) 2 x2) 3 x3) 4 x4) 5 x5)))] t.heap ∧ va_K (dC, dI) vwCl [(cc0, .int)] t ∧ va_D (va_A [(h0, .inr (11, [.ref h1, .int 6])), (h1, .inl (cc0, 6, .inl (upd (upd (upd (upd (upd (upd (fun _ => 0) 0 x0) 1 x1) 2 x2) 3 x3) 4 x4) 5 x5)))] sz) [(h0, .inr (11, [.ref h1, .int 6])), (h1, .inl (cc0, 6, .inl (upd (upd (upd (upd (upd (upd (fun _ => 0) 0 x0) 1 x1) 2 x2) 3 x3) 4 x4) 5 x5)))]) (va_A [(h0, .inr (11, [.ref h1, .int 6])), (h1, .inl (cc0, 6, .inl (upd (upd (upd (upd (upd (upd (fun _ => 0) 0 x0) 1 x1) 2 x2) 3 x3) 4 x4) 5 x5)))] sz)) 0 0 (va_A [(h0, .inr (11, [.ref h1, .int 6])), (h1, .inl (cc0, 6, .inl (upd (upd (upd (upd (upd (upd (fun _ => 0) 0 x0) 1 x1) 2 x2) 3 x3) 4 x4) 5 x5)))] sz) := by
  refine Met.ofW (cc := cX4_get) (maxL := 2) (ret := (some .int)) (by decide) rfl ?_
  intro p e s m args below meth c s₁ B hml hv
  obtain ⟨rfl, hsz, hP, hK, hD0, hF⟩ := hv
  have hx := B.exec
  have hb := B.bytes
  have hr := B.returns
  have hts := atoms_spec (ws := wbX4_get) B.pre
  have hta : ∀ w ∈ wsALL, w.before _ s = true := fun w h => hts w (List.mem_cons_of_mem _ h)
  have hown : s.vm.findClass RX4 = some m.cls := findClass_of_methodNamed B.named
  have hlocks := B.notSynchronized
  subst hsz
  have hD := hD0.self (sz := s.heap.size)
  generalize hAe : va_A [(h0, .inr (11, [.ref h1, .int 6])), (h1, .inl (cc0, 6, .inl (upd (upd (upd (upd (upd (upd (fun _ => 0) 0 x0) 1 x1) 2 x2) 3 x3) 4 x4) 5 x5)))] s.heap.size = A at hD hF ⊢
  have hA : ∀ q : Nat, s.heap.size ≤ q → A q := fun q h => by rw [← hAe]; exact Or.inr h
  have hS : va_S A s.heap s.heap [] := va_S.rf
  have hP : va_P (dC, dI) vwCl [(h0, .inr (11, [.ref h1, .int 6])), (h1, .inl (cc0, 6, .inl (upd (upd (upd (upd (upd (upd (fun _ => 0) 0 x0) 1 x1) 2 x2) 3 x3) 4 x4) 5 x5)))] s.heap := hP
  have hl := lv_entry ([.ref h0, .int 2]) (n := 2) (Nat.le_of_ble_eq_true rfl)
  rw [lg_entry_eq]
  generalize (lg_sl ([.ref h0, .int 2]) ++ List.replicate (2 - (lg_sl ([.ref h0, .int 2])).length) Slot.unset).toArray = ls at hl ⊢
  have hl : lv_has ls 2 [(0, .ref h0), (1, .int 2)] := hl
  refine lv_iload_n hx hb dX4_get_0 rfl (lv_at hl 1 rfl) ?_
  refine lv_if_lt (tgt := 30) hx hb dX4_get_1 (by decide) (fun c1 => absurd c1 (by decide)) (fun c1 => ?_)
  refine lv_iload_n hx hb dX4_get_4 rfl (lv_at hl 1 rfl) ?_
  refine lv_aload_n hx hb dX4_get_5 rfl (lv_at hl 0 rfl) ?_
  refine va_get (D := (dC, dI)) (ci := 11) (v := .int 6) (C := RX4) (T := TX4) (N := 2) hx hb hta naX4 hown hK hP 0 rfl rfl 1 (by decide) (hta _ wm14) (fun _ h9 => h9) rfl dX4_get_6 ?_
  refine lv_icmp_ge (tgt := 30) hx hb dX4_get_9 (by decide) (fun c2 => absurd c2 (by decide)) (fun c2 => ?_)
  refine lv_iload_n hx hb dX4_get_12 rfl (lv_at hl 1 rfl) ?_
  refine lv_aload_n hx hb dX4_get_13 rfl (lv_at hl 0 rfl) ?_
  refine va_get (D := (dC, dI)) (ci := 11) (v := .ref h1) (C := RX4) (T := TX4) (N := 2) hx hb hta naX4 hown hK hP 0 rfl rfl 0 (by decide) (hta _ wm16) (fun _ h9 => h9) rfl dX4_get_14 ?_
  refine va_alen (v := 6) hx hb hK hP 1 0 rfl rfl (show Int32.ofNat 6 = 6 by decide) dX4_get_17 ?_
  refine lv_icmp_ge (tgt := 30) hx hb dX4_get_18 (by decide) (fun c3 => absurd c3 (by decide)) (fun c3 => ?_)
  refine lv_aload_n hx hb dX4_get_21 rfl (lv_at hl 0 rfl) ?_
  refine va_get (D := (dC, dI)) (ci := 11) (v := .ref h1) (C := RX4) (T := TX4) (N := 2) hx hb hta naX4 hown hK hP 0 rfl rfl 0 (by decide) (hta _ wm16) (fun _ h9 => h9) rfl dX4_get_22 ?_
  refine lv_iload_n hx hb dX4_get_25 rfl (lv_at hl 1 rfl) ?_
  refine va_iald hx hb hK hP 1 0 rfl rfl (vp_in_nI (n := 2) (by decide) (by decide)) dX4_get_26 ?_
  refine lv_topi (fun y4 ey4 => ?_)
  obtain rfl : x2 = y4 := ey4.symm
  refine lv_goto (tgt := 31) hx hb dX4_get_27 (by decide) ?_
  have hP9 := hP.sub (ws' := [(h0, .inr (11, [.ref h1, .int 6])), (h1, .inl (cc0, 6, .inl (upd (upd (upd (upd (upd (upd (fun _ => 0) 0 x0) 1 x1) 2 x2) 3 x3) 4 x4) 5 x5)))]) [0, 1] rfl
  have hD9 := hD.sub (ws' := [(h0, .inr (11, [.ref h1, .int 6])), (h1, .inl (cc0, 6, .inl (upd (upd (upd (upd (upd (upd (fun _ => 0) 0 x0) 1 x1) 2 x2) 3 x3) 4 x4) 5 x5)))]) [0, 1] (by decide) rfl
  have hK9 := hK.sub (tys' := [(cc0, .int)]) [0] rfl
  refine W.widen (k := 0) (n := 0) (Nat.le_of_ble_eq_true rfl) (Nat.le_of_ble_eq_true rfl) ?_
  exact W.iret (v := x2) hx hb hr (fun t ht hW => ⟨⟨_, (), rfl, rfl, by rw [ht]; exact hP9, va_K.moved hW.alike hK9, hD9⟩, hS.F ht⟩) hS.2.2 dX4_get_31
set_option maxHeartbeats 4000000 in
set_option maxRecDepth 100000 in
theorem kX9_lengthAfter_16 (l : Launch) (dC : Nat → ClassId) (dI : Nat → Nat → Nat) (g : Nat → Nat) (sz : Nat) (x0 : Int32) (x1 : Int32) (ex0 : (0 : Int) ≤ x0.toInt ∧ x0.toInt ≤ (4 : Int)) (ex1 : (20 : Int) ≤ x1.toInt ∧ x1.toInt ≤ (21 : Int)) : Met l yX9_lengthAfter wbX9_lengthAfter ({ frames := 0, cells := 0, slots := 0, locals := 0 }) (va_Pc [.int x0, .int x1] (fun U => U.heap.size = sz ∧ va_P (dC, dI) vwCl [] U.heap ∧ va_K (dC, dI) vwCl [] U ∧ va_D (fun _ => True) [] ∧ ns_F g (va_A [] sz) U U.heap)) (va_Qi (fun (r : Int32) (_ : Unit) => r = (ns_len x0 x1)) (fun _ t => va_P (dC, dI) vwCl [] t.heap ∧ va_K (dC, dI) vwCl [] t ∧ va_D (va_A [] sz) []) (va_A [] sz)) 0 0 (va_A [] sz) := by
  refine Met.ofW (cc := cX9_lengthAfter) (maxL := 2) (ret := (some .int)) (by decide) rfl ?_
  intro p e s m args below meth c s₁ B hml hv
  obtain ⟨rfl, hsz, hP, hK, hD0, hF⟩ := hv
  have hx := B.exec
  have hb := B.bytes
  have hr := B.returns
  have hts := atoms_spec (ws := wbX9_lengthAfter) B.pre
  have hta : ∀ w ∈ wsALL, w.before _ s = true := fun w h => hts w (List.mem_cons_of_mem _ h)
  have hown : s.vm.findClass RX9 = some m.cls := findClass_of_methodNamed B.named
  have hlocks := B.notSynchronized
  subst hsz
  have hD := hD0.self (sz := s.heap.size)
  generalize hAe : va_A [] s.heap.size = A at hD hF ⊢
  have hA : ∀ q : Nat, s.heap.size ≤ q → A q := fun q h => by rw [← hAe]; exact Or.inr h
  have hS : va_S A s.heap s.heap [] := va_S.rf
  have hP : va_P (dC, dI) vwCl [] s.heap := hP
  have hl := lv_entry ([.int x0, .int x1]) (n := 2) (Nat.le_of_ble_eq_true rfl)
  rw [lg_entry_eq]
  generalize (lg_sl ([.int x0, .int x1]) ++ List.replicate (2 - (lg_sl ([.int x0, .int x1])).length) Slot.unset).toArray = ls at hl ⊢
  have hl : lv_has ls 2 [(0, .int x0), (1, .int x1)] := hl
  refine lv_iload_n hx hb dX9_lengthAfter_0 rfl (lv_at hl 1 rfl) ?_
  refine lv_iconst (v := (-1)) hx hb dX9_lengthAfter_1 (by decide) ?_
  refine lv_icmp_ne (tgt := 7) hx hb dX9_lengthAfter_2 (by decide) (fun c1 => ?_) (fun c1 => absurd c1 (fun z => absurd (show x1.toInt = (-1 : Int) from congrArg Int32.toInt z) (by omega)))
  refine lv_iload_n hx hb dX9_lengthAfter_7 rfl (lv_at hl 1 rfl) ?_
  refine lv_bipush (v := 21) hx hb dX9_lengthAfter_8 (by decide) ?_
  refine lv_icmp_ne (tgt := 15) hx hb dX9_lengthAfter_10 (by decide) (fun c2 => ?_) (fun c2 => ?_)
  · have ec2 : ¬ x1.toInt = (21 : Int) := fun z => c2 (Int32.toInt_inj.mp z)
    refine lv_iload_n hx hb dX9_lengthAfter_15 rfl (lv_at hl 1 rfl) ?_
    refine lv_bipush (v := 20) hx hb dX9_lengthAfter_16 (by decide) ?_
    refine lv_icmp_ne (tgt := 33) hx hb dX9_lengthAfter_18 (by decide) (fun c3 => absurd (show x1 = (20 : Int32) from Int32.toInt_inj.mp (show x1.toInt = (20 : Int) by omega)) c3) (fun c3 => ?_)
    refine lv_iload_n hx hb dX9_lengthAfter_21 rfl (lv_at hl 0 rfl) ?_
    refine lv_if_le (tgt := 31) hx hb dX9_lengthAfter_22 (by decide) (fun c4 => ?_) (fun c4 => ?_)
    · have ec4 : x0.toInt ≤ (0 : Int) := Int32.le_iff_toInt_le.mp c4
      refine lv_iconst (v := 0) hx hb dX9_lengthAfter_31 (by decide) ?_
      have hP9 := hP.sub (ws' := []) [] rfl
      have hD9 := hD.sub (ws' := []) [] (by decide) rfl
      have hK9 := hK.sub (tys' := []) [] rfl
      refine W.widen (k := 0) (n := 0) (Nat.le_of_ble_eq_true rfl) (Nat.le_of_ble_eq_true rfl) ?_
      have hz9 : 0 = (ns_len x0 x1) := (by unfold ns_len; (repeat' split) <;> first | rfl | (exfalso; omega))
      exact W.iret (v := 0) hx hb hr (fun t ht hW => ⟨⟨_, (), rfl, hz9, by rw [ht]; exact hP9, va_K.moved hW.alike hK9, hD9⟩, hS.F ht⟩) hS.2.2 dX9_lengthAfter_32
    · have ec4 : ¬ x0.toInt ≤ (0 : Int) := fun z => c4 (Int32.le_iff_toInt_le.mpr z)
      refine lv_iload_n hx hb dX9_lengthAfter_25 rfl (lv_at hl 0 rfl) ?_
      refine lv_iconst (v := 1) hx hb dX9_lengthAfter_26 (by decide) ?_
      refine lv_isub hx hb dX9_lengthAfter_27 ?_
      have r5 : (x0 - 1).toInt = x0.toInt - (1 : Int) := fb_subI (show (-2147483648 : Int) ≤ x0.toInt - (1 : Int) by omega) (show x0.toInt - (1 : Int) < (2147483648 : Int) by omega)
      refine lv_goto (tgt := 32) hx hb dX9_lengthAfter_28 (by decide) ?_
      have hP9 := hP.sub (ws' := []) [] rfl
      have hD9 := hD.sub (ws' := []) [] (by decide) rfl
      have hK9 := hK.sub (tys' := []) [] rfl
      refine W.widen (k := 0) (n := 0) (Nat.le_of_ble_eq_true rfl) (Nat.le_of_ble_eq_true rfl) ?_
      have hz9 : (x0 - 1) = (ns_len x0 x1) := (by unfold ns_len; (repeat' split) <;> first | rfl | (exfalso; omega))
      exact W.iret (v := (x0 - 1)) hx hb hr (fun t ht hW => ⟨⟨_, (), rfl, hz9, by rw [ht]; exact hP9, va_K.moved hW.alike hK9, hD9⟩, hS.F ht⟩) hS.2.2 dX9_lengthAfter_32
  · have ec2 : x1.toInt = (21 : Int) := congrArg Int32.toInt c2
    refine lv_iconst (v := 0) hx hb dX9_lengthAfter_13 (by decide) ?_
    have hP9 := hP.sub (ws' := []) [] rfl
    have hD9 := hD.sub (ws' := []) [] (by decide) rfl
    have hK9 := hK.sub (tys' := []) [] rfl
    refine W.widen (k := 0) (n := 0) (Nat.le_of_ble_eq_true rfl) (Nat.le_of_ble_eq_true rfl) ?_
    have hz9 : 0 = (ns_len x0 x1) := (by unfold ns_len; (repeat' split) <;> first | rfl | (exfalso; omega))
    exact W.iret (v := 0) hx hb hr (fun t ht hW => ⟨⟨_, (), rfl, hz9, by rw [ht]; exact hP9, va_K.moved hW.alike hK9, hD9⟩, hS.F ht⟩) hS.2.2 dX9_lengthAfter_14
set_option maxHeartbeats 4000000 in
set_option maxRecDepth 100000 in
theorem kX4_init_5 (l : Launch) (dC : Nat → ClassId) (dI : Nat → Nat → Nat) (g : Nat → Nat) (sz : Nat) (h0 : Nat) (v0 : Value) (v1 : Value) : Met l yX4_init wbX4_init ({ frames := 1, cells := 1, slots := 4, locals := 12 }) (va_Pc [.ref h0, .int 4] (fun U => U.heap.size = sz ∧ va_P (dC, dI) vwCl [(h0, .inr (11, [v0, v1]))] U.heap ∧ va_K (dC, dI) vwCl [] U ∧ va_D (fun _ => True) [(h0, .inr (11, [v0, v1]))] ∧ ns_F g (va_A [(h0, .inr (11, [v0, v1]))] sz) U U.heap)) (va_Qv (fun _ : Unit => True) (fun _ t => ∃ k0 : Nat, ∃ kc1 : ClassId, va_P (dC, dI) vwCl [(h0, .inr (11, [.ref k0, .int 0])), (k0, .inl (kc1, 4, .inl (fun _ => 0)))] t.heap ∧ va_K (dC, dI) vwCl [(kc1, .int)] t ∧ va_D (va_A [(h0, .inr (11, [v0, v1]))] sz) [(h0, .inr (11, [.ref k0, .int 0])), (k0, .inl (kc1, 4, .inl (fun _ => 0)))]) (va_A [(h0, .inr (11, [v0, v1]))] sz)) 1 4 (va_A [(h0, .inr (11, [v0, v1]))] sz) := by
  refine Met.ofW (cc := cX4_init) (maxL := 2) (ret := none) (by decide) rfl ?_
  intro p e s m args below meth c s₁ B hml hv
  obtain ⟨rfl, hsz, hP, hK, hD0, hF⟩ := hv
  have hx := B.exec
  have hb := B.bytes
  have hr := B.returns
  have hts := atoms_spec (ws := wbX4_init) B.pre
  have hta : ∀ w ∈ wsALL, w.before _ s = true := fun w h => hts w (List.mem_cons_of_mem _ h)
  have hown : s.vm.findClass RX4 = some m.cls := findClass_of_methodNamed B.named
  have hlocks := B.notSynchronized
  have hin : meth.name = "<init>" := (name_of_methodNamed B.named B.method).1
  subst hsz
  have hD := hD0.self (sz := s.heap.size)
  generalize hAe : va_A [(h0, .inr (11, [v0, v1]))] s.heap.size = A at hD hF ⊢
  have hA : ∀ q : Nat, s.heap.size ≤ q → A q := fun q h => by rw [← hAe]; exact Or.inr h
  have hS : va_S A s.heap s.heap [] := va_S.rf
  have hP : va_P (dC, dI) vwCl [(h0, .inr (11, [v0, v1]))] s.heap := hP
  have hl := lv_entry ([.ref h0, .int 4]) (n := 2) (Nat.le_of_ble_eq_true rfl)
  rw [lg_entry_eq]
  generalize (lg_sl ([.ref h0, .int 4]) ++ List.replicate (2 - (lg_sl ([.ref h0, .int 4])).length) Slot.unset).toArray = ls at hl ⊢
  have hl : lv_has ls 2 [(0, .ref h0), (1, .int 4)] := hl
  refine lv_aload_n hx hb dX4_init_0 rfl (lv_at hl 0 rfl) ?_
  refine W.objInit hx hb hown (hta _ wm13) (hta _ wm4) (hta _ wm5) rfl (by rw [hml]; exact hl.1) rfl dX4_init_1 (Nat.le_of_ble_eq_true rfl) (Nat.le_of_ble_eq_true rfl) ?_
  refine W.eq (g2 := F0 m 4 ls []) rfl ?_
  refine lv_aload_n hx hb dX4_init_4 rfl (lv_at hl 0 rfl) ?_
  refine lv_iconst (v := 0) hx hb dX4_init_5 (by decide) ?_
  refine va_put (D := (dC, dI)) (ci := 11) (v := .int 0) (ty := .int) (C := RX4) (T := TX4) (N := 2) hx hb hta naX4 tyX4 tyX4_ok nmX4 hown hK hP hD hS 0 rfl rfl 1 (by decide) (hta _ wm14) (fun _ h9 => h9) rfl (by decide +kernel) rfl rfl (Nat.le_of_ble_eq_true rfl) dX4_init_6 (fun H locs hP hD hS => ?_)
  have hP : va_P (dC, dI) vwCl [(h0, .inr (11, [v0, .int 0]))] H := hP
  have hD : va_D A [(h0, .inr (11, [v0, .int 0]))] := hD
  refine lv_aload_n hx hb dX4_init_9 rfl (lv_at hl 0 rfl) ?_
  refine lv_iload_n hx hb dX4_init_10 rfl (lv_at hl 1 rfl) ?_
  refine lv_if_le (tgt := 18) hx hb dX4_init_11 (by decide) (fun c1 => absurd c1 (by decide)) (fun c1 => ?_)
  refine lv_iload_n hx hb dX4_init_14 rfl (lv_at hl 1 rfl) ?_
  refine lv_goto (tgt := 19) hx hb dX4_init_15 (by decide) ?_
  refine va_newa (atype := .int) hx hb (hta _ wm15) rfl hK hP hD hS hA (N' := 4) (a0 := (4, .inl (fun _ => 0))) (fun _ => rfl) (by decide) (by decide) (Nat.le_of_ble_eq_true rfl) (Nat.le_of_ble_eq_true rfl) (Nat.le_of_ble_eq_true rfl) dX4_init_19 (fun q2 cyq2 H hK hP hD hS => ?_)
  have hP : va_P (dC, dI) vwCl [(h0, .inr (11, [v0, .int 0])), (q2, .inl (cyq2, 4, .inl (fun _ => 0)))] H := hP
  have hD : va_D A [(h0, .inr (11, [v0, .int 0])), (q2, .inl (cyq2, 4, .inl (fun _ => 0)))] := hD
  have hK : va_K (dC, dI) vwCl [(cyq2, .int)] s := hK
  refine W.widen (k := 1) (n := 4) (Nat.le_of_ble_eq_true rfl) (Nat.le_of_ble_eq_true rfl) ?_
  refine va_putF (D := (dC, dI)) (ci := 11) (v := .ref q2) (ty := .array (.int)) (C := RX4) (T := TX4) (N := 2) hx hb hta naX4 tyX4 tyX4_ok nmX4 hown hK hP hD hS 0 rfl rfl 0 (by decide) (hta _ wm16) (fun _ h9 => h9) rfl hin rfl (by decide +kernel) rfl rfl (Nat.le_of_ble_eq_true rfl) dX4_init_21 (fun H locs hP hD hS => ?_)
  have hP : va_P (dC, dI) vwCl [(h0, .inr (11, [.ref q2, .int 0])), (q2, .inl (cyq2, 4, .inl (fun _ => 0)))] H := hP
  have hD : va_D A [(h0, .inr (11, [.ref q2, .int 0])), (q2, .inl (cyq2, 4, .inl (fun _ => 0)))] := hD
  have hP9 := hP.sub (ws' := [(h0, .inr (11, [.ref q2, .int 0])), (q2, .inl (cyq2, 4, .inl (fun _ => 0)))]) [0, 1] rfl
  have hD9 := hD.sub (ws' := [(h0, .inr (11, [.ref q2, .int 0])), (q2, .inl (cyq2, 4, .inl (fun _ => 0)))]) [0, 1] (by decide) rfl
  have hK9 := hK.sub (tys' := [(cyq2, .int)]) [0] rfl
  refine W.widen (k := 1) (n := 4) (Nat.le_of_ble_eq_true rfl) (Nat.le_of_ble_eq_true rfl) ?_
  exact W.vret hx hb hr (fun t ht hW => ⟨⟨(), rfl, trivial, q2, cyq2, by rw [ht]; exact hP9, va_K.moved hW.alike hK9, hD9⟩, hS.F ht⟩) hS.2.2 dX4_init_24
set_option maxHeartbeats 4000000 in
set_option maxRecDepth 100000 in
theorem kJ5_ensureCapacityInternal_d00df_3 (l : Launch) (dC : Nat → ClassId) (dI : Nat → Nat → Nat) (g : Nat → Nat) (sz : Nat) (h0 : Nat) (h1 : Nat) (v0 : Value) (v1 : Value) (cc0 : ClassId) (f0 : Nat → Int32) (hf0 : sb_Fit f0) : Met l yJ5_ensureCapacityInternal_d00df wbJ5_ensureCapacityInternal_d00df ({ frames := 0, cells := 0, slots := 0, locals := 0 }) (va_Pc [.ref h0, .int 3] (fun U => U.heap.size = sz ∧ va_P (dC, dI) vwCl [(h0, .inr (1, [.ref h1, .int 0, v0, v1])), (h1, .inl (cc0, 16, .inl f0))] U.heap ∧ va_K (dC, dI) vwCl [(cc0, .byte)] U ∧ va_D (fun _ => True) [(h0, .inr (1, [.ref h1, .int 0, v0, v1])), (h1, .inl (cc0, 16, .inl f0))] ∧ ns_F g (va_A [(h0, .inr (1, [.ref h1, .int 0, v0, v1])), (h1, .inl (cc0, 16, .inl f0))] sz) U U.heap)) (va_Qv (fun _ : Unit => True) (fun _ t => va_P (dC, dI) vwCl [(h0, .inr (1, [.ref h1, .int 0, v0, v1])), (h1, .inl (cc0, 16, .inl f0))] t.heap ∧ va_K (dC, dI) vwCl [(cc0, .byte)] t ∧ va_D (va_A [(h0, .inr (1, [.ref h1, .int 0, v0, v1])), (h1, .inl (cc0, 16, .inl f0))] sz) [(h0, .inr (1, [.ref h1, .int 0, v0, v1])), (h1, .inl (cc0, 16, .inl f0))]) (va_A [(h0, .inr (1, [.ref h1, .int 0, v0, v1])), (h1, .inl (cc0, 16, .inl f0))] sz)) 0 0 (va_A [(h0, .inr (1, [.ref h1, .int 0, v0, v1])), (h1, .inl (cc0, 16, .inl f0))] sz) := by
  refine Met.ofW (cc := cJ5_ensureCapacityInternal_d00df) (maxL := 3) (ret := none) (by decide) rfl ?_
  intro p e s m args below meth c s₁ B hml hv
  obtain ⟨rfl, hsz, hP, hK, hD0, hF⟩ := hv
  have hx := B.exec
  have hb := B.bytes
  have hr := B.returns
  have hts := atoms_spec (ws := wbJ5_ensureCapacityInternal_d00df) B.pre
  have hta : ∀ w ∈ wsALL, w.before _ s = true := fun w h => hts w (List.mem_cons_of_mem _ h)
  have hown : s.vm.findClass RJ5 = some m.cls := findClass_of_methodNamed B.named
  have hlocks := B.notSynchronized
  subst hsz
  have hD := hD0.self (sz := s.heap.size)
  generalize hAe : va_A [(h0, .inr (1, [.ref h1, .int 0, v0, v1])), (h1, .inl (cc0, 16, .inl f0))] s.heap.size = A at hD hF ⊢
  have hA : ∀ q : Nat, s.heap.size ≤ q → A q := fun q h => by rw [← hAe]; exact Or.inr h
  have hS : va_S A s.heap s.heap [] := va_S.rf
  have hP : va_P (dC, dI) vwCl [(h0, .inr (1, [.ref h1, .int 0, v0, v1])), (h1, .inl (cc0, 16, .inl f0))] s.heap := hP
  have hl := lv_entry ([.ref h0, .int 3]) (n := 3) (Nat.le_of_ble_eq_true rfl)
  rw [lg_entry_eq]
  generalize (lg_sl ([.ref h0, .int 3]) ++ List.replicate (3 - (lg_sl ([.ref h0, .int 3])).length) Slot.unset).toArray = ls at hl ⊢
  have hl : lv_has ls 3 [(0, .ref h0), (1, .int 3)] := hl
  refine lv_aload_n hx hb dJ5_ensureCapacityInternal_d00df_0 rfl (lv_at hl 0 rfl) ?_
  refine va_get (D := (dC, dI)) (ci := 1) (v := .ref h1) (C := RJ4) (T := TJ4) (N := 4) hx hb hta naJ4 hown hK hP 0 rfl rfl 0 (by decide) (hta _ wm141) (fun _ h9 => h9) rfl dJ5_ensureCapacityInternal_d00df_1 ?_
  refine va_alen (v := 16) hx hb hK hP 1 0 rfl rfl (show Int32.ofNat 16 = 16 by decide) dJ5_ensureCapacityInternal_d00df_4 ?_
  refine lv_aload_n hx hb dJ5_ensureCapacityInternal_d00df_5 rfl (lv_at hl 0 rfl) ?_
  refine va_get (D := (dC, dI)) (ci := 1) (v := .int 0) (C := RJ4) (T := TJ4) (N := 4) hx hb hta naJ4 hown hK hP 0 rfl rfl 1 (by decide) (hta _ wm142) (fun _ h9 => h9) rfl dJ5_ensureCapacityInternal_d00df_6 ?_
  refine lv_ishr hx hb dJ5_ensureCapacityInternal_d00df_9 ?_
  refine lv_topi (fun y1 ey1 => ?_)
  obtain rfl : y1 = 16 := ey1.trans (by decide)
  refine lv_istore_n (lv' := [(2, .int 16), (0, .ref h0), (1, .int 3)]) hx hb dJ5_ensureCapacityInternal_d00df_10 rfl hl (by decide) rfl (fun ls hl => ?_)
  refine lv_iload_n hx hb dJ5_ensureCapacityInternal_d00df_11 rfl (lv_at hl 2 rfl) ?_
  refine lv_iload_n hx hb dJ5_ensureCapacityInternal_d00df_12 rfl (lv_at hl 0 rfl) ?_
  refine lv_isub hx hb dJ5_ensureCapacityInternal_d00df_13 ?_
  refine lv_topi (fun y2 ey2 => ?_)
  obtain rfl : y2 = (-13) := ey2.trans (by decide)
  refine lv_if_le (tgt := 38) hx hb dJ5_ensureCapacityInternal_d00df_14 (by decide) (fun c3 => ?_) (fun c3 => absurd (by decide) c3)
  have hP9 := hP.sub (ws' := [(h0, .inr (1, [.ref h1, .int 0, v0, v1])), (h1, .inl (cc0, 16, .inl f0))]) [0, 1] rfl
  have hD9 := hD.sub (ws' := [(h0, .inr (1, [.ref h1, .int 0, v0, v1])), (h1, .inl (cc0, 16, .inl f0))]) [0, 1] (by decide) rfl
  have hK9 := hK.sub (tys' := [(cc0, .byte)]) [0] rfl
  refine W.widen (k := 0) (n := 0) (Nat.le_of_ble_eq_true rfl) (Nat.le_of_ble_eq_true rfl) ?_
  exact W.vret hx hb hr (fun t ht hW => ⟨⟨(), rfl, trivial, by rw [ht]; exact hP9, va_K.moved hW.alike hK9, hD9⟩, hS.F ht⟩) hS.2.2 dJ5_ensureCapacityInternal_d00df_38
set_option maxHeartbeats 4000000 in
set_option maxRecDepth 100000 in
theorem kX9_blank (l : Launch) (dC : Nat → ClassId) (dI : Nat → Nat → Nat) (g : Nat → Nat) (sz : Nat) (h0 : Nat) (v0 : Value) (v1 : Value) (v2 : Value) (v3 : Value) (v4 : Value) (v5 : Value) (v6 : Value) (v7 : Value) (v8 : Value) (v9 : Value) (v10 : Value) (v11 : Value) (v12 : Value) (v13 : Value) (v14 : Value) : Met l yX9_blank wbX9_blank ({ frames := 0, cells := 0, slots := 0, locals := 0 }) (va_Pc [.ref h0] (fun U => U.heap.size = sz ∧ va_P (dC, dI) vwCl [(h0, .inr (16, [v0, v1, v2, v3, v4, v5, v6, v7, v8, v9, v10, v11, v12, .int 0, v13, v14]))] U.heap ∧ va_K (dC, dI) vwCl [] U ∧ va_D (fun _ => True) [(h0, .inr (16, [v0, v1, v2, v3, v4, v5, v6, v7, v8, v9, v10, v11, v12, .int 0, v13, v14]))] ∧ ns_F g (va_A [(h0, .inr (16, [v0, v1, v2, v3, v4, v5, v6, v7, v8, v9, v10, v11, v12, .int 0, v13, v14]))] sz) U U.heap)) (va_Qi (fun (r : Int32) (_ : Unit) => r = (-9)) (fun _ t => va_P (dC, dI) vwCl [(h0, .inr (16, [v0, v1, v2, v3, v4, v5, v6, v7, v8, v9, v10, v11, v12, .int 1, v13, v14]))] t.heap ∧ va_K (dC, dI) vwCl [] t ∧ va_D (va_A [(h0, .inr (16, [v0, v1, v2, v3, v4, v5, v6, v7, v8, v9, v10, v11, v12, .int 0, v13, v14]))] sz) [(h0, .inr (16, [v0, v1, v2, v3, v4, v5, v6, v7, v8, v9, v10, v11, v12, .int 1, v13, v14]))]) (va_A [(h0, .inr (16, [v0, v1, v2, v3, v4, v5, v6, v7, v8, v9, v10, v11, v12, .int 0, v13, v14]))] sz)) 0 0 (va_A [(h0, .inr (16, [v0, v1, v2, v3, v4, v5, v6, v7, v8, v9, v10, v11, v12, .int 0, v13, v14]))] sz) := by
  refine Met.ofW (cc := cX9_blank) (maxL := 1) (ret := (some .int)) (by decide) rfl ?_
  intro p e s m args below meth c s₁ B hml hv
  obtain ⟨rfl, hsz, hP, hK, hD0, hF⟩ := hv
  have hx := B.exec
  have hb := B.bytes
  have hr := B.returns
  have hts := atoms_spec (ws := wbX9_blank) B.pre
  have hta : ∀ w ∈ wsALL, w.before _ s = true := fun w h => hts w (List.mem_cons_of_mem _ h)
  have hown : s.vm.findClass RX9 = some m.cls := findClass_of_methodNamed B.named
  have hlocks := B.notSynchronized
  subst hsz
  have hD := hD0.self (sz := s.heap.size)
  generalize hAe : va_A [(h0, .inr (16, [v0, v1, v2, v3, v4, v5, v6, v7, v8, v9, v10, v11, v12, .int 0, v13, v14]))] s.heap.size = A at hD hF ⊢
  have hA : ∀ q : Nat, s.heap.size ≤ q → A q := fun q h => by rw [← hAe]; exact Or.inr h
  have hS : va_S A s.heap s.heap [] := va_S.rf
  have hP : va_P (dC, dI) vwCl [(h0, .inr (16, [v0, v1, v2, v3, v4, v5, v6, v7, v8, v9, v10, v11, v12, .int 0, v13, v14]))] s.heap := hP
  have hl := lv_entry ([.ref h0]) (n := 1) (Nat.le_of_ble_eq_true rfl)
  rw [lg_entry_eq]
  generalize (lg_sl ([.ref h0]) ++ List.replicate (1 - (lg_sl ([.ref h0])).length) Slot.unset).toArray = ls at hl ⊢
  have hl : lv_has ls 1 [(0, .ref h0)] := hl
  refine lv_aload_n hx hb dX9_blank_0 rfl (lv_at hl 0 rfl) ?_
  refine lv_dup hx hb dX9_blank_1 rfl ?_
  refine va_get (D := (dC, dI)) (ci := 16) (v := .int 0) (C := RX9) (T := TX9) (N := 16) hx hb hta naX9 hown hK hP 0 rfl rfl 13 (by decide) (hta _ wm170) (fun _ h9 => h9) rfl dX9_blank_2 ?_
  refine lv_iconst (v := 1) hx hb dX9_blank_5 (by decide) ?_
  refine lv_iadd hx hb dX9_blank_6 ?_
  refine lv_topi (fun y1 ey1 => ?_)
  obtain rfl : y1 = 1 := ey1.trans (by decide)
  refine va_put (D := (dC, dI)) (ci := 16) (v := .int 1) (ty := .int) (C := RX9) (T := TX9) (N := 16) hx hb hta naX9 tyX9 tyX9_ok nmX9 hown hK hP hD hS 0 rfl rfl 13 (by decide) (hta _ wm170) (fun _ h9 => h9) rfl (by decide +kernel) rfl rfl (Nat.le_of_ble_eq_true rfl) dX9_blank_7 (fun H locs hP hD hS => ?_)
  have hP : va_P (dC, dI) vwCl [(h0, .inr (16, [v0, v1, v2, v3, v4, v5, v6, v7, v8, v9, v10, v11, v12, .int 1, v13, v14]))] H := hP
  have hD : va_D A [(h0, .inr (16, [v0, v1, v2, v3, v4, v5, v6, v7, v8, v9, v10, v11, v12, .int 1, v13, v14]))] := hD
  refine lv_bipush (v := (-9)) hx hb dX9_blank_10 (by decide) ?_
  have hP9 := hP.sub (ws' := [(h0, .inr (16, [v0, v1, v2, v3, v4, v5, v6, v7, v8, v9, v10, v11, v12, .int 1, v13, v14]))]) [0] rfl
  have hD9 := hD.sub (ws' := [(h0, .inr (16, [v0, v1, v2, v3, v4, v5, v6, v7, v8, v9, v10, v11, v12, .int 1, v13, v14]))]) [0] (by decide) rfl
  have hK9 := hK.sub (tys' := []) [] rfl
  refine W.widen (k := 0) (n := 0) (Nat.le_of_ble_eq_true rfl) (Nat.le_of_ble_eq_true rfl) ?_
  exact W.iret (v := (-9)) hx hb hr (fun t ht hW => ⟨⟨_, (), rfl, rfl, by rw [ht]; exact hP9, va_K.moved hW.alike hK9, hD9⟩, hS.F ht⟩) hS.2.2 dX9_blank_12
set_option maxHeartbeats 4000000 in
set_option maxRecDepth 100000 in
theorem kX9_stateOf_6 (l : Launch) (dC : Nat → ClassId) (dI : Nat → Nat → Nat) (g : Nat → Nat) (sz : Nat) (h0 : Nat) (v0 : Value) (v1 : Value) (v2 : Value) (v3 : Value) (v4 : Value) (v5 : Value) (v6 : Value) (v7 : Value) (v8 : Value) (v9 : Value) (v10 : Value) (v11 : Value) (v12 : Value) (v13 : Value) (v14 : Value) : Met l yX9_stateOf wbX9_stateOf ({ frames := 0, cells := 0, slots := 0, locals := 0 }) (va_Pc [.ref h0, .int 5] (fun U => U.heap.size = sz ∧ va_P (dC, dI) vwCl [(h0, .inr (16, [v0, v1, v2, v3, v4, v5, v6, v7, v8, v9, v10, v11, v12, v13, .int 0, v14]))] U.heap ∧ va_K (dC, dI) vwCl [] U ∧ va_D (fun _ => True) [(h0, .inr (16, [v0, v1, v2, v3, v4, v5, v6, v7, v8, v9, v10, v11, v12, v13, .int 0, v14]))] ∧ ns_F g (va_A [(h0, .inr (16, [v0, v1, v2, v3, v4, v5, v6, v7, v8, v9, v10, v11, v12, v13, .int 0, v14]))] sz) U U.heap)) (va_Qi (fun (r : Int32) (_ : Unit) => r = 0) (fun _ t => va_P (dC, dI) vwCl [(h0, .inr (16, [v0, v1, v2, v3, v4, v5, v6, v7, v8, v9, v10, v11, v12, v13, .int 0, v14]))] t.heap ∧ va_K (dC, dI) vwCl [] t ∧ va_D (va_A [(h0, .inr (16, [v0, v1, v2, v3, v4, v5, v6, v7, v8, v9, v10, v11, v12, v13, .int 0, v14]))] sz) [(h0, .inr (16, [v0, v1, v2, v3, v4, v5, v6, v7, v8, v9, v10, v11, v12, v13, .int 0, v14]))]) (va_A [(h0, .inr (16, [v0, v1, v2, v3, v4, v5, v6, v7, v8, v9, v10, v11, v12, v13, .int 0, v14]))] sz)) 0 0 (va_A [(h0, .inr (16, [v0, v1, v2, v3, v4, v5, v6, v7, v8, v9, v10, v11, v12, v13, .int 0, v14]))] sz) := by
  refine Met.ofW (cc := cX9_stateOf) (maxL := 2) (ret := (some .int)) (by decide) rfl ?_
  intro p e s m args below meth c s₁ B hml hv
  obtain ⟨rfl, hsz, hP, hK, hD0, hF⟩ := hv
  have hx := B.exec
  have hb := B.bytes
  have hr := B.returns
  have hts := atoms_spec (ws := wbX9_stateOf) B.pre
  have hta : ∀ w ∈ wsALL, w.before _ s = true := fun w h => hts w (List.mem_cons_of_mem _ h)
  have hown : s.vm.findClass RX9 = some m.cls := findClass_of_methodNamed B.named
  have hlocks := B.notSynchronized
  subst hsz
  have hD := hD0.self (sz := s.heap.size)
  generalize hAe : va_A [(h0, .inr (16, [v0, v1, v2, v3, v4, v5, v6, v7, v8, v9, v10, v11, v12, v13, .int 0, v14]))] s.heap.size = A at hD hF ⊢
  have hA : ∀ q : Nat, s.heap.size ≤ q → A q := fun q h => by rw [← hAe]; exact Or.inr h
  have hS : va_S A s.heap s.heap [] := va_S.rf
  have hP : va_P (dC, dI) vwCl [(h0, .inr (16, [v0, v1, v2, v3, v4, v5, v6, v7, v8, v9, v10, v11, v12, v13, .int 0, v14]))] s.heap := hP
  have hl := lv_entry ([.ref h0, .int 5]) (n := 2) (Nat.le_of_ble_eq_true rfl)
  rw [lg_entry_eq]
  generalize (lg_sl ([.ref h0, .int 5]) ++ List.replicate (2 - (lg_sl ([.ref h0, .int 5])).length) Slot.unset).toArray = ls at hl ⊢
  have hl : lv_has ls 2 [(0, .ref h0), (1, .int 5)] := hl
  refine lv_iload_n hx hb dX9_stateOf_0 rfl (lv_at hl 1 rfl) ?_
  refine lv_tableIn (off := 74) (tgt := 75) hx hb dX9_stateOf_1 (by decide) (by decide) (by decide) (by decide) ?_
  refine lv_aload_n hx hb dX9_stateOf_75 rfl (lv_at hl 0 rfl) ?_
  refine va_get (D := (dC, dI)) (ci := 16) (v := .int 0) (C := RX9) (T := TX9) (N := 16) hx hb hta naX9 hown hK hP 0 rfl rfl 14 (by decide) (hta _ wm171) (fun _ h9 => h9) rfl dX9_stateOf_76 ?_
  have hP9 := hP.sub (ws' := [(h0, .inr (16, [v0, v1, v2, v3, v4, v5, v6, v7, v8, v9, v10, v11, v12, v13, .int 0, v14]))]) [0] rfl
  have hD9 := hD.sub (ws' := [(h0, .inr (16, [v0, v1, v2, v3, v4, v5, v6, v7, v8, v9, v10, v11, v12, v13, .int 0, v14]))]) [0] (by decide) rfl
  have hK9 := hK.sub (tys' := []) [] rfl
  refine W.widen (k := 0) (n := 0) (Nat.le_of_ble_eq_true rfl) (Nat.le_of_ble_eq_true rfl) ?_
  exact W.iret (v := 0) hx hb hr (fun t ht hW => ⟨⟨_, (), rfl, rfl, by rw [ht]; exact hP9, va_K.moved hW.alike hK9, hD9⟩, hS.F ht⟩) hS.2.2 dX9_stateOf_79
set_option maxHeartbeats 4000000 in
set_option maxRecDepth 100000 in
theorem kX9_word_30 (l : Launch) (dC : Nat → ClassId) (dI : Nat → Nat → Nat) (g : Nat → Nat) (sz : Nat) (h0 : Nat) (x0 : Int32) (ex0 : (26 : Int) ≤ x0.toInt ∧ x0.toInt ≤ (2147483647 : Int)) (hlt : l.stackTraces = false) : vx_Met l yX9_word wbX9_word ({ frames := 6, cells := 1, slots := 6, locals := 82 }) (va_Pc [.ref h0, .int x0, .int 7] (fun U => U.heap.size = sz ∧ va_P (dC, dI) vwCl [] U.heap ∧ va_K (dC, dI) vwCl [] U ∧ va_D (fun _ => True) [] ∧ ns_F g (va_A [] sz) U U.heap)) (va_Qv (fun _ : Unit => False) (fun _ _ => True) (va_A [] sz)) (vx_X (fun _ : Unit => True) (fun E _ _ => E = "java/lang/IllegalArgumentException") (va_A [] sz)) 1 6 (va_A [] sz) := by
  refine vx_ofW (cc := cX9_word) (maxL := 4) (ret := (some .int)) (by decide) rfl ?_
  intro p e s m args below meth c s₁ B hml hnox hv
  obtain ⟨rfl, hsz, hP, hK, hD0, hF⟩ := hv
  have hx := B.exec
  have hb := B.bytes
  have hr := B.returns
  have hts := atoms_spec (ws := wbX9_word) B.pre
  have hta : ∀ w ∈ wsALL, w.before _ s = true := fun w h => hts w (List.mem_cons_of_mem _ h)
  have hown : s.vm.findClass RX9 = some m.cls := findClass_of_methodNamed B.named
  have hlocks := B.notSynchronized
  subst hsz
  have hD := hD0.self (sz := s.heap.size)
  generalize hAe : va_A [] s.heap.size = A at hD hF ⊢
  have hA : ∀ q : Nat, s.heap.size ≤ q → A q := fun q h => by rw [← hAe]; exact Or.inr h
  have hS : va_S A s.heap s.heap [] := va_S.rf
  have hP : va_P (dC, dI) vwCl [] s.heap := hP
  have hl := lv_entry ([.ref h0, .int x0, .int 7]) (n := 4) (Nat.le_of_ble_eq_true rfl)
  rw [lg_entry_eq]
  generalize (lg_sl ([.ref h0, .int x0, .int 7]) ++ List.replicate (4 - (lg_sl ([.ref h0, .int x0, .int 7])).length) Slot.unset).toArray = ls at hl ⊢
  have hl : lv_has ls 4 [(0, .ref h0), (1, .int x0), (2, .int 7)] := hl
  refine lv_iload_n hx hb dX9_word_0 rfl (lv_at hl 1 rfl) ?_
  refine lv_if_lt (tgt := 10) hx hb dX9_word_1 (by decide) (fun c1 => absurd c1 (fun z => absurd (show x0.toInt < (0 : Int) from Int32.lt_iff_toInt_lt.mp z) (by omega))) (fun c1 => ?_)
  refine lv_iload_n hx hb dX9_word_4 rfl (lv_at hl 1 rfl) ?_
  refine lv_bipush (v := 25) hx hb dX9_word_5 (by decide) ?_
  refine lv_icmp_le (tgt := 20) hx hb dX9_word_7 (by decide) (fun c2 => absurd c2 (fun z => absurd (show x0.toInt ≤ (25 : Int) from Int32.le_iff_toInt_le.mp z) (by omega))) (fun c2 => ?_)
  exact vx_throwS hx hb hlt (text := "letter is 0 to 25") (sa := (g 10)) (names := ["java/lang/RuntimeException", "java/lang/Exception"]) hown (by decide) (by decide) (hta _ wm225) (hta _ wm226) (ns_f21 hF) (vx_hat (B := [.declares ⟨"java/lang/RuntimeException", "<init>", "(Ljava/lang/String;)V"⟩, .declares ⟨"java/lang/Exception", "<init>", "(Ljava/lang/String;)V"⟩, .declares ⟨"java/lang/Throwable", "<init>", "(Ljava/lang/String;)V"⟩, .castable "java/lang/IllegalArgumentException" "java/lang/IllegalArgumentException"]) (fun w9 h9 => hta w9 (vm0 w9 h9)) (by decide +kernel) (vx_c (va_Nw.use rfl (ns_f12 hF)) (vx_c (va_Nw.use rfl (ns_f13 hF)) (vx_c (va_Nw.use rfl (ns_f14 hF)) (vx_c (va_Nw.use rfl (ns_f11 hF)) vx_n))))) (by decide +kernel) (ns_f18 hF) (ns_f19 hF) hS (by rw [hml]; exact hl.1) dX9_word_10 dX9_word_13 dX9_word_14 dX9_word_16 dX9_word_19 (fun x hx => (hnox x hx).elim) (Nat.le_of_ble_eq_true rfl) (Nat.le_of_ble_eq_true rfl) (Nat.le_of_ble_eq_true rfl) (Nat.le_of_ble_eq_true rfl) hlocks (fun t9 hal hsz9 hk9 => ⟨(), trivial, rfl, Nat.le_trans hS.1 hsz9, fun q hq1 hq2 => (hk9 q (Nat.lt_of_lt_of_le hq1 hS.1)).trans (hS.2.1 q hq1 hq2)⟩) hS.2.2 (Nat.le_of_ble_eq_true rfl) (Nat.le_of_ble_eq_true rfl)
set_option maxHeartbeats 4000000 in
set_option maxRecDepth 100000 in
theorem kX9_word (l : Launch) (dC : Nat → ClassId) (dI : Nat → Nat → Nat) (g : Nat → Nat) (sz : Nat) (h0 : Nat) (x0 : Int32) (x1 : Int32) (ex0 : (-2147483648 : Int) ≤ x0.toInt ∧ x0.toInt ≤ (-1 : Int)) (ex1 : (-2147483648 : Int) ≤ x1.toInt ∧ x1.toInt ≤ (0 : Int)) (hlt : l.stackTraces = false) : vx_Met l yX9_word wbX9_word ({ frames := 6, cells := 1, slots := 6, locals := 82 }) (va_Pc [.ref h0, .int x0, .int x1] (fun U => U.heap.size = sz ∧ va_P (dC, dI) vwCl [] U.heap ∧ va_K (dC, dI) vwCl [] U ∧ va_D (fun _ => True) [] ∧ ns_F g (va_A [] sz) U U.heap)) (va_Qv (fun _ : Unit => False) (fun _ _ => True) (va_A [] sz)) (vx_X (fun _ : Unit => True) (fun E _ _ => E = "java/lang/IllegalArgumentException") (va_A [] sz)) 1 6 (va_A [] sz) := by
  refine vx_ofW (cc := cX9_word) (maxL := 4) (ret := (some .int)) (by decide) rfl ?_
  intro p e s m args below meth c s₁ B hml hnox hv
  obtain ⟨rfl, hsz, hP, hK, hD0, hF⟩ := hv
  have hx := B.exec
  have hb := B.bytes
  have hr := B.returns
  have hts := atoms_spec (ws := wbX9_word) B.pre
  have hta : ∀ w ∈ wsALL, w.before _ s = true := fun w h => hts w (List.mem_cons_of_mem _ h)
  have hown : s.vm.findClass RX9 = some m.cls := findClass_of_methodNamed B.named
  have hlocks := B.notSynchronized
  subst hsz
  have hD := hD0.self (sz := s.heap.size)
  generalize hAe : va_A [] s.heap.size = A at hD hF ⊢
  have hA : ∀ q : Nat, s.heap.size ≤ q → A q := fun q h => by rw [← hAe]; exact Or.inr h
  have hS : va_S A s.heap s.heap [] := va_S.rf
  have hP : va_P (dC, dI) vwCl [] s.heap := hP
  have hl := lv_entry ([.ref h0, .int x0, .int x1]) (n := 4) (Nat.le_of_ble_eq_true rfl)
  rw [lg_entry_eq]
  generalize (lg_sl ([.ref h0, .int x0, .int x1]) ++ List.replicate (4 - (lg_sl ([.ref h0, .int x0, .int x1])).length) Slot.unset).toArray = ls at hl ⊢
  have hl : lv_has ls 4 [(0, .ref h0), (1, .int x0), (2, .int x1)] := hl
  refine lv_iload_n hx hb dX9_word_0 rfl (lv_at hl 1 rfl) ?_
  refine lv_if_lt (tgt := 10) hx hb dX9_word_1 (by decide) (fun c1 => ?_) (fun c1 => absurd (show x0 < (0 : Int32) from Int32.lt_iff_toInt_lt.mpr (show x0.toInt < (0 : Int) by omega)) c1)
  exact vx_throwS hx hb hlt (text := "letter is 0 to 25") (sa := (g 10)) (names := ["java/lang/RuntimeException", "java/lang/Exception"]) hown (by decide) (by decide) (hta _ wm225) (hta _ wm226) (ns_f21 hF) (vx_hat (B := [.declares ⟨"java/lang/RuntimeException", "<init>", "(Ljava/lang/String;)V"⟩, .declares ⟨"java/lang/Exception", "<init>", "(Ljava/lang/String;)V"⟩, .declares ⟨"java/lang/Throwable", "<init>", "(Ljava/lang/String;)V"⟩, .castable "java/lang/IllegalArgumentException" "java/lang/IllegalArgumentException"]) (fun w9 h9 => hta w9 (vm0 w9 h9)) (by decide +kernel) (vx_c (va_Nw.use rfl (ns_f12 hF)) (vx_c (va_Nw.use rfl (ns_f13 hF)) (vx_c (va_Nw.use rfl (ns_f14 hF)) (vx_c (va_Nw.use rfl (ns_f11 hF)) vx_n))))) (by decide +kernel) (ns_f18 hF) (ns_f19 hF) hS (by rw [hml]; exact hl.1) dX9_word_10 dX9_word_13 dX9_word_14 dX9_word_16 dX9_word_19 (fun x hx => (hnox x hx).elim) (Nat.le_of_ble_eq_true rfl) (Nat.le_of_ble_eq_true rfl) (Nat.le_of_ble_eq_true rfl) (Nat.le_of_ble_eq_true rfl) hlocks (fun t9 hal hsz9 hk9 => ⟨(), trivial, rfl, Nat.le_trans hS.1 hsz9, fun q hq1 hq2 => (hk9 q (Nat.lt_of_lt_of_le hq1 hS.1)).trans (hS.2.1 q hq1 hq2)⟩) hS.2.2 (Nat.le_of_ble_eq_true rfl) (Nat.le_of_ble_eq_true rfl)
set_option maxHeartbeats 4000000 in
set_option maxRecDepth 100000 in
theorem kJ0_isLatin1_aae02_2 (l : Launch) (dC : Nat → ClassId) (dI : Nat → Nat → Nat) (g : Nat → Nat) (sz : Nat) (h0 : Nat) (v0 : Value) (v1 : Value) (v2 : Value) : Met l yJ0_isLatin1_aae02 wbJ0_isLatin1_aae02 ({ frames := 0, cells := 0, slots := 0, locals := 0 }) (va_Pc [.ref h0] (fun U => U.heap.size = sz ∧ va_P (dC, dI) vwCl [(h0, .inr (0, [v0, .int 0, v1, v2]))] U.heap ∧ va_K (dC, dI) vwCl [] U ∧ va_D (fun _ => True) [(h0, .inr (0, [v0, .int 0, v1, v2]))] ∧ ns_F g (va_A [(h0, .inr (0, [v0, .int 0, v1, v2]))] sz) U U.heap)) (va_Qi (fun (r : Int32) (_ : Unit) => r = 1) (fun _ t => va_P (dC, dI) vwCl [(h0, .inr (0, [v0, .int 0, v1, v2]))] t.heap ∧ va_K (dC, dI) vwCl [] t ∧ va_D (va_A [(h0, .inr (0, [v0, .int 0, v1, v2]))] sz) [(h0, .inr (0, [v0, .int 0, v1, v2]))]) (va_A [(h0, .inr (0, [v0, .int 0, v1, v2]))] sz)) 0 0 (va_A [(h0, .inr (0, [v0, .int 0, v1, v2]))] sz) := by
  refine Met.ofW (cc := cJ0_isLatin1_aae02) (maxL := 1) (ret := (some .boolean)) (by decide) rfl ?_
  intro p e s m args below meth c s₁ B hml hv
  obtain ⟨rfl, hsz, hP, hK, hD0, hF⟩ := hv
  have hx := B.exec
  have hb := B.bytes
  have hr := B.returns
  have hts := atoms_spec (ws := wbJ0_isLatin1_aae02) B.pre
  have hta : ∀ w ∈ wsALL, w.before _ s = true := fun w h => hts w (List.mem_cons_of_mem _ h)
  have hown : s.vm.findClass RJ0 = some m.cls := findClass_of_methodNamed B.named
  have hlocks := B.notSynchronized
  subst hsz
  have hD := hD0.self (sz := s.heap.size)
  generalize hAe : va_A [(h0, .inr (0, [v0, .int 0, v1, v2]))] s.heap.size = A at hD hF ⊢
  have hA : ∀ q : Nat, s.heap.size ≤ q → A q := fun q h => by rw [← hAe]; exact Or.inr h
  have hS : va_S A s.heap s.heap [] := va_S.rf
  have hP : va_P (dC, dI) vwCl [(h0, .inr (0, [v0, .int 0, v1, v2]))] s.heap := hP
  have hl := lv_entry ([.ref h0]) (n := 1) (Nat.le_of_ble_eq_true rfl)
  rw [lg_entry_eq]
  generalize (lg_sl ([.ref h0]) ++ List.replicate (1 - (lg_sl ([.ref h0])).length) Slot.unset).toArray = ls at hl ⊢
  have hl : lv_has ls 1 [(0, .ref h0)] := hl
  refine va_gets hx hb (ns_f15 hF) hS hown (hta _ wm569) (fun _ h9 => h9) dJ0_isLatin1_aae02_0 ?_
  refine lv_if_eq (tgt := 17) hx hb dJ0_isLatin1_aae02_3 (by decide) (fun c1 => absurd c1 (by decide)) (fun c1 => ?_)
  refine lv_aload_n hx hb dJ0_isLatin1_aae02_6 rfl (lv_at hl 0 rfl) ?_
  refine va_get (D := (dC, dI)) (ci := 0) (v := .int 0) (C := RJ0) (T := TJ0) (N := 4) hx hb hta naJ0 hown hK hP 0 rfl rfl 1 (by decide) (hta _ wm324) (fun _ h9 => h9) rfl dJ0_isLatin1_aae02_7 ?_
  refine lv_if_ne (tgt := 17) hx hb dJ0_isLatin1_aae02_10 (by decide) (fun c2 => absurd (by decide) c2) (fun c2 => ?_)
  refine lv_iconst (v := 1) hx hb dJ0_isLatin1_aae02_13 (by decide) ?_
  refine lv_goto (tgt := 18) hx hb dJ0_isLatin1_aae02_14 (by decide) ?_
  have hP9 := hP.sub (ws' := [(h0, .inr (0, [v0, .int 0, v1, v2]))]) [0] rfl
  have hD9 := hD.sub (ws' := [(h0, .inr (0, [v0, .int 0, v1, v2]))]) [0] (by decide) rfl
  have hK9 := hK.sub (tys' := []) [] rfl
  refine W.widen (k := 0) (n := 0) (Nat.le_of_ble_eq_true rfl) (Nat.le_of_ble_eq_true rfl) ?_
  exact W.zret (v := 1) hx hb hr (by decide) (fun t ht hW => ⟨⟨_, (), rfl, rfl, by rw [ht]; exact hP9, va_K.moved hW.alike hK9, hD9⟩, hS.F ht⟩) hS.2.2 dJ0_isLatin1_aae02_18
set_option maxHeartbeats 4000000 in
set_option maxRecDepth 100000 in
theorem kX16_codeTold_4 (l : Launch) (dC : Nat → ClassId) (dI : Nat → Nat → Nat) (g : Nat → Nat) (sz : Nat) (h0 : Nat) (v0 : Value) (v1 : Value) (v2 : Value) (v3 : Value) (v4 : Value) (v5 : Value) (v6 : Value) (v7 : Value) : Met l yX16_codeTold wbX16_codeTold ({ frames := 0, cells := 0, slots := 0, locals := 0 }) (va_Pc [.ref h0, .int 2] (fun U => U.heap.size = sz ∧ va_P (dC, dI) vwCl [(h0, .inr (23, [v0, v1, v2, v3, v4, .null, v5, v6, v7]))] U.heap ∧ va_K (dC, dI) vwCl [] U ∧ va_D (fun _ => True) [(h0, .inr (23, [v0, v1, v2, v3, v4, .null, v5, v6, v7]))] ∧ ns_F g (va_A [(h0, .inr (23, [v0, v1, v2, v3, v4, .null, v5, v6, v7]))] sz) U U.heap)) (va_Qi (fun (r : Int32) (_ : Unit) => r = 0) (fun _ t => va_P (dC, dI) vwCl [(h0, .inr (23, [v0, v1, v2, v3, v4, .null, v5, v6, v7]))] t.heap ∧ va_K (dC, dI) vwCl [] t ∧ va_D (va_A [(h0, .inr (23, [v0, v1, v2, v3, v4, .null, v5, v6, v7]))] sz) [(h0, .inr (23, [v0, v1, v2, v3, v4, .null, v5, v6, v7]))]) (va_A [(h0, .inr (23, [v0, v1, v2, v3, v4, .null, v5, v6, v7]))] sz)) 0 0 (va_A [(h0, .inr (23, [v0, v1, v2, v3, v4, .null, v5, v6, v7]))] sz) := by
  refine Met.ofW (cc := cX16_codeTold) (maxL := 4) (ret := (some .int)) (by decide) rfl ?_
  intro p e s m args below meth c s₁ B hml hv
  obtain ⟨rfl, hsz, hP, hK, hD0, hF⟩ := hv
  have hx := B.exec
  have hb := B.bytes
  have hr := B.returns
  have hts := atoms_spec (ws := wbX16_codeTold) B.pre
  have hta : ∀ w ∈ wsALL, w.before _ s = true := fun w h => hts w (List.mem_cons_of_mem _ h)
  have hown : s.vm.findClass RX16 = some m.cls := findClass_of_methodNamed B.named
  have hlocks := B.notSynchronized
  subst hsz
  have hD := hD0.self (sz := s.heap.size)
  generalize hAe : va_A [(h0, .inr (23, [v0, v1, v2, v3, v4, .null, v5, v6, v7]))] s.heap.size = A at hD hF ⊢
  have hA : ∀ q : Nat, s.heap.size ≤ q → A q := fun q h => by rw [← hAe]; exact Or.inr h
  have hS : va_S A s.heap s.heap [] := va_S.rf
  have hP : va_P (dC, dI) vwCl [(h0, .inr (23, [v0, v1, v2, v3, v4, .null, v5, v6, v7]))] s.heap := hP
  have hl := lv_entry ([.ref h0, .int 2]) (n := 4) (Nat.le_of_ble_eq_true rfl)
  rw [lg_entry_eq]
  generalize (lg_sl ([.ref h0, .int 2]) ++ List.replicate (4 - (lg_sl ([.ref h0, .int 2])).length) Slot.unset).toArray = ls at hl ⊢
  have hl : lv_has ls 4 [(0, .ref h0), (1, .int 2)] := hl
  refine lv_aload_n hx hb dX16_codeTold_0 rfl (lv_at hl 0 rfl) ?_
  refine va_get (D := (dC, dI)) (ci := 23) (v := .null) (C := RX16) (T := TX16) (N := 9) hx hb hta naX16 hown hK hP 0 rfl rfl 5 (by decide) (hta _ wm947) (fun _ h9 => h9) rfl dX16_codeTold_1 ?_
  refine lv_ifnonnullN hx hb dX16_codeTold_4 ?_
  refine lv_iconst (v := 0) hx hb dX16_codeTold_7 (by decide) ?_
  have hP9 := hP.sub (ws' := [(h0, .inr (23, [v0, v1, v2, v3, v4, .null, v5, v6, v7]))]) [0] rfl
  have hD9 := hD.sub (ws' := [(h0, .inr (23, [v0, v1, v2, v3, v4, .null, v5, v6, v7]))]) [0] (by decide) rfl
  have hK9 := hK.sub (tys' := []) [] rfl
  refine W.widen (k := 0) (n := 0) (Nat.le_of_ble_eq_true rfl) (Nat.le_of_ble_eq_true rfl) ?_
  exact W.iret (v := 0) hx hb hr (fun t ht hW => ⟨⟨_, (), rfl, rfl, by rw [ht]; exact hP9, va_K.moved hW.alike hK9, hD9⟩, hS.F ht⟩) hS.2.2 dX16_codeTold_8
set_option maxHeartbeats 4000000 in
set_option maxRecDepth 100000 in
theorem kJ3_checkFromToIndex_8c36e_7 (l : Launch) (dC : Nat → ClassId) (dI : Nat → Nat → Nat) (g : Nat → Nat) (sz : Nat)  : Met l yJ3_checkFromToIndex_8c36e wbJ3_checkFromToIndex_8c36e ({ frames := 0, cells := 0, slots := 0, locals := 0 }) (va_Pc [.int 0, .int 3, .int 4, .null] (fun U => U.heap.size = sz ∧ va_P (dC, dI) vwCl [] U.heap ∧ va_K (dC, dI) vwCl [] U ∧ va_D (fun _ => True) [] ∧ ns_F g (va_A [] sz) U U.heap)) (va_Qi (fun (r : Int32) (_ : Unit) => r = 0) (fun _ t => va_P (dC, dI) vwCl [] t.heap ∧ va_K (dC, dI) vwCl [] t ∧ va_D (va_A [] sz) []) (va_A [] sz)) 0 0 (va_A [] sz) := by
  refine Met.ofW (cc := cJ3_checkFromToIndex_8c36e) (maxL := 4) (ret := (some .int)) (by decide) rfl ?_
  intro p e s m args below meth c s₁ B hml hv
  obtain ⟨rfl, hsz, hP, hK, hD0, hF⟩ := hv
  have hx := B.exec
  have hb := B.bytes
  have hr := B.returns
  have hts := atoms_spec (ws := wbJ3_checkFromToIndex_8c36e) B.pre
  have hta : ∀ w ∈ wsALL, w.before _ s = true := fun w h => hts w (List.mem_cons_of_mem _ h)
  have hown : s.vm.findClass RJ3 = some m.cls := findClass_of_methodNamed B.named
  have hlocks := B.notSynchronized
  subst hsz
  have hD := hD0.self (sz := s.heap.size)
  generalize hAe : va_A [] s.heap.size = A at hD hF ⊢
  have hA : ∀ q : Nat, s.heap.size ≤ q → A q := fun q h => by rw [← hAe]; exact Or.inr h
  have hS : va_S A s.heap s.heap [] := va_S.rf
  have hP : va_P (dC, dI) vwCl [] s.heap := hP
  have hl := lv_entry ([.int 0, .int 3, .int 4, .null]) (n := 4) (Nat.le_of_ble_eq_true rfl)
  rw [lg_entry_eq]
  generalize (lg_sl ([.int 0, .int 3, .int 4, .null]) ++ List.replicate (4 - (lg_sl ([.int 0, .int 3, .int 4, .null])).length) Slot.unset).toArray = ls at hl ⊢
  have hl : lv_has ls 4 [(0, .int 0), (1, .int 3), (2, .int 4), (3, .null)] := hl
  refine lv_iload_n hx hb dJ3_checkFromToIndex_8c36e_0 rfl (lv_at hl 0 rfl) ?_
  refine lv_if_lt (tgt := 14) hx hb dJ3_checkFromToIndex_8c36e_1 (by decide) (fun c1 => absurd c1 (by decide)) (fun c1 => ?_)
  refine lv_iload_n hx hb dJ3_checkFromToIndex_8c36e_4 rfl (lv_at hl 0 rfl) ?_
  refine lv_iload_n hx hb dJ3_checkFromToIndex_8c36e_5 rfl (lv_at hl 1 rfl) ?_
  refine lv_icmp_gt (tgt := 14) hx hb dJ3_checkFromToIndex_8c36e_6 (by decide) (fun c2 => absurd c2 (by decide)) (fun c2 => ?_)
  refine lv_iload_n hx hb dJ3_checkFromToIndex_8c36e_9 rfl (lv_at hl 1 rfl) ?_
  refine lv_iload_n hx hb dJ3_checkFromToIndex_8c36e_10 rfl (lv_at hl 2 rfl) ?_
  refine lv_icmp_le (tgt := 22) hx hb dJ3_checkFromToIndex_8c36e_11 (by decide) (fun c3 => ?_) (fun c3 => absurd (by decide) c3)
  refine lv_iload_n hx hb dJ3_checkFromToIndex_8c36e_22 rfl (lv_at hl 0 rfl) ?_
  have hP9 := hP.sub (ws' := []) [] rfl
  have hD9 := hD.sub (ws' := []) [] (by decide) rfl
  have hK9 := hK.sub (tys' := []) [] rfl
  refine W.widen (k := 0) (n := 0) (Nat.le_of_ble_eq_true rfl) (Nat.le_of_ble_eq_true rfl) ?_
  exact W.iret (v := 0) hx hb hr (fun t ht hW => ⟨⟨_, (), rfl, rfl, by rw [ht]; exact hP9, va_K.moved hW.alike hK9, hD9⟩, hS.F ht⟩) hS.2.2 dJ3_checkFromToIndex_8c36e_23
set_option maxHeartbeats 4000000 in
set_option maxRecDepth 100000 in
theorem kX16_isIn_27 (l : Launch) (dC : Nat → ClassId) (dI : Nat → Nat → Nat) (g : Nat → Nat) (sz : Nat) (x0 : Int32) (ex0 : (0 : Int) ≤ x0.toInt ∧ x0.toInt ≤ (9 : Int)) : Met l yX16_isIn wbX16_isIn ({ frames := 0, cells := 0, slots := 0, locals := 0 }) (va_Pc [.int x0, .int 0, .int 9] (fun U => U.heap.size = sz ∧ va_P (dC, dI) vwCl [] U.heap ∧ va_K (dC, dI) vwCl [] U ∧ va_D (fun _ => True) [] ∧ ns_F g (va_A [] sz) U U.heap)) (va_Qi (fun (r : Int32) (_ : Unit) => r = 1) (fun _ t => va_P (dC, dI) vwCl [] t.heap ∧ va_K (dC, dI) vwCl [] t ∧ va_D (va_A [] sz) []) (va_A [] sz)) 0 0 (va_A [] sz) := by
  refine Met.ofW (cc := cX16_isIn) (maxL := 3) (ret := (some .boolean)) (by decide) rfl ?_
  intro p e s m args below meth c s₁ B hml hv
  obtain ⟨rfl, hsz, hP, hK, hD0, hF⟩ := hv
  have hx := B.exec
  have hb := B.bytes
  have hr := B.returns
  have hts := atoms_spec (ws := wbX16_isIn) B.pre
  have hta : ∀ w ∈ wsALL, w.before _ s = true := fun w h => hts w (List.mem_cons_of_mem _ h)
  have hown : s.vm.findClass RX16 = some m.cls := findClass_of_methodNamed B.named
  have hlocks := B.notSynchronized
  subst hsz
  have hD := hD0.self (sz := s.heap.size)
  generalize hAe : va_A [] s.heap.size = A at hD hF ⊢
  have hA : ∀ q : Nat, s.heap.size ≤ q → A q := fun q h => by rw [← hAe]; exact Or.inr h
  have hS : va_S A s.heap s.heap [] := va_S.rf
  have hP : va_P (dC, dI) vwCl [] s.heap := hP
  have hl := lv_entry ([.int x0, .int 0, .int 9]) (n := 3) (Nat.le_of_ble_eq_true rfl)
  rw [lg_entry_eq]
  generalize (lg_sl ([.int x0, .int 0, .int 9]) ++ List.replicate (3 - (lg_sl ([.int x0, .int 0, .int 9])).length) Slot.unset).toArray = ls at hl ⊢
  have hl : lv_has ls 3 [(0, .int x0), (1, .int 0), (2, .int 9)] := hl
  refine lv_iload_n hx hb dX16_isIn_0 rfl (lv_at hl 0 rfl) ?_
  refine lv_iload_n hx hb dX16_isIn_1 rfl (lv_at hl 1 rfl) ?_
  refine lv_icmp_lt (tgt := 14) hx hb dX16_isIn_2 (by decide) (fun c1 => absurd c1 (fun z => absurd (show x0.toInt < (0 : Int) from Int32.lt_iff_toInt_lt.mp z) (by omega))) (fun c1 => ?_)
  refine lv_iload_n hx hb dX16_isIn_5 rfl (lv_at hl 0 rfl) ?_
  refine lv_iload_n hx hb dX16_isIn_6 rfl (lv_at hl 2 rfl) ?_
  refine lv_icmp_gt (tgt := 14) hx hb dX16_isIn_7 (by decide) (fun c2 => absurd c2 (fun z => absurd (show (9 : Int) < x0.toInt from Int32.lt_iff_toInt_lt.mp z) (by omega))) (fun c2 => ?_)
  refine lv_iconst (v := 1) hx hb dX16_isIn_10 (by decide) ?_
  refine lv_goto (tgt := 15) hx hb dX16_isIn_11 (by decide) ?_
  have hP9 := hP.sub (ws' := []) [] rfl
  have hD9 := hD.sub (ws' := []) [] (by decide) rfl
  have hK9 := hK.sub (tys' := []) [] rfl
  refine W.widen (k := 0) (n := 0) (Nat.le_of_ble_eq_true rfl) (Nat.le_of_ble_eq_true rfl) ?_
  exact W.zret (v := 1) hx hb hr (by decide) (fun t ht hW => ⟨⟨_, (), rfl, rfl, by rw [ht]; exact hP9, va_K.moved hW.alike hK9, hD9⟩, hS.F ht⟩) hS.2.2 dX16_isIn_15
set_option maxHeartbeats 4000000 in
set_option maxRecDepth 100000 in
theorem kJ5_length_8abf5_9 (l : Launch) (dC : Nat → ClassId) (dI : Nat → Nat → Nat) (g : Nat → Nat) (sz : Nat) (h0 : Nat) (v0 : Value) (v1 : Value) (v2 : Value) : Met l yJ5_length_8abf5 wbJ5_length_8abf5 ({ frames := 0, cells := 0, slots := 0, locals := 0 }) (va_Pc [.ref h0] (fun U => U.heap.size = sz ∧ va_P (dC, dI) vwCl [(h0, .inr (1, [v0, v1, v2, .int 9]))] U.heap ∧ va_K (dC, dI) vwCl [] U ∧ va_D (fun _ => True) [(h0, .inr (1, [v0, v1, v2, .int 9]))] ∧ ns_F g (va_A [(h0, .inr (1, [v0, v1, v2, .int 9]))] sz) U U.heap)) (va_Qi (fun (r : Int32) (_ : Unit) => r = 9) (fun _ t => va_P (dC, dI) vwCl [(h0, .inr (1, [v0, v1, v2, .int 9]))] t.heap ∧ va_K (dC, dI) vwCl [] t ∧ va_D (va_A [(h0, .inr (1, [v0, v1, v2, .int 9]))] sz) [(h0, .inr (1, [v0, v1, v2, .int 9]))]) (va_A [(h0, .inr (1, [v0, v1, v2, .int 9]))] sz)) 0 0 (va_A [(h0, .inr (1, [v0, v1, v2, .int 9]))] sz) := by
  refine Met.ofW (cc := cJ5_length_8abf5) (maxL := 1) (ret := (some .int)) (by decide) rfl ?_
  intro p e s m args below meth c s₁ B hml hv
  obtain ⟨rfl, hsz, hP, hK, hD0, hF⟩ := hv
  have hx := B.exec
  have hb := B.bytes
  have hr := B.returns
  have hts := atoms_spec (ws := wbJ5_length_8abf5) B.pre
  have hta : ∀ w ∈ wsALL, w.before _ s = true := fun w h => hts w (List.mem_cons_of_mem _ h)
  have hown : s.vm.findClass RJ5 = some m.cls := findClass_of_methodNamed B.named
  have hlocks := B.notSynchronized
  subst hsz
  have hD := hD0.self (sz := s.heap.size)
  generalize hAe : va_A [(h0, .inr (1, [v0, v1, v2, .int 9]))] s.heap.size = A at hD hF ⊢
  have hA : ∀ q : Nat, s.heap.size ≤ q → A q := fun q h => by rw [← hAe]; exact Or.inr h
  have hS : va_S A s.heap s.heap [] := va_S.rf
  have hP : va_P (dC, dI) vwCl [(h0, .inr (1, [v0, v1, v2, .int 9]))] s.heap := hP
  have hl := lv_entry ([.ref h0]) (n := 1) (Nat.le_of_ble_eq_true rfl)
  rw [lg_entry_eq]
  generalize (lg_sl ([.ref h0]) ++ List.replicate (1 - (lg_sl ([.ref h0])).length) Slot.unset).toArray = ls at hl ⊢
  have hl : lv_has ls 1 [(0, .ref h0)] := hl
  refine lv_aload_n hx hb dJ5_length_8abf5_0 rfl (lv_at hl 0 rfl) ?_
  refine va_get (D := (dC, dI)) (ci := 1) (v := .int 9) (C := RJ4) (T := TJ4) (N := 4) hx hb hta naJ4 hown hK hP 0 rfl rfl 3 (by decide) (hta _ wm290) (fun _ h9 => h9) rfl dJ5_length_8abf5_1 ?_
  have hP9 := hP.sub (ws' := [(h0, .inr (1, [v0, v1, v2, .int 9]))]) [0] rfl
  have hD9 := hD.sub (ws' := [(h0, .inr (1, [v0, v1, v2, .int 9]))]) [0] (by decide) rfl
  have hK9 := hK.sub (tys' := []) [] rfl
  refine W.widen (k := 0) (n := 0) (Nat.le_of_ble_eq_true rfl) (Nat.le_of_ble_eq_true rfl) ?_
  exact W.iret (v := 9) hx hb hr (fun t ht hW => ⟨⟨_, (), rfl, rfl, by rw [ht]; exact hP9, va_K.moved hW.alike hK9, hD9⟩, hS.F ht⟩) hS.2.2 dJ5_length_8abf5_4
set_option maxHeartbeats 4000000 in
set_option maxRecDepth 100000 in
theorem kX16_isIn_35 (l : Launch) (dC : Nat → ClassId) (dI : Nat → Nat → Nat) (g : Nat → Nat) (sz : Nat)  : Met l yX16_isIn wbX16_isIn ({ frames := 0, cells := 0, slots := 0, locals := 0 }) (va_Pc [.int 5, .int 0, .int 7] (fun U => U.heap.size = sz ∧ va_P (dC, dI) vwCl [] U.heap ∧ va_K (dC, dI) vwCl [] U ∧ va_D (fun _ => True) [] ∧ ns_F g (va_A [] sz) U U.heap)) (va_Qi (fun (r : Int32) (_ : Unit) => r = 1) (fun _ t => va_P (dC, dI) vwCl [] t.heap ∧ va_K (dC, dI) vwCl [] t ∧ va_D (va_A [] sz) []) (va_A [] sz)) 0 0 (va_A [] sz) := by
  refine Met.ofW (cc := cX16_isIn) (maxL := 3) (ret := (some .boolean)) (by decide) rfl ?_
  intro p e s m args below meth c s₁ B hml hv
  obtain ⟨rfl, hsz, hP, hK, hD0, hF⟩ := hv
  have hx := B.exec
  have hb := B.bytes
  have hr := B.returns
  have hts := atoms_spec (ws := wbX16_isIn) B.pre
  have hta : ∀ w ∈ wsALL, w.before _ s = true := fun w h => hts w (List.mem_cons_of_mem _ h)
  have hown : s.vm.findClass RX16 = some m.cls := findClass_of_methodNamed B.named
  have hlocks := B.notSynchronized
  subst hsz
  have hD := hD0.self (sz := s.heap.size)
  generalize hAe : va_A [] s.heap.size = A at hD hF ⊢
  have hA : ∀ q : Nat, s.heap.size ≤ q → A q := fun q h => by rw [← hAe]; exact Or.inr h
  have hS : va_S A s.heap s.heap [] := va_S.rf
  have hP : va_P (dC, dI) vwCl [] s.heap := hP
  have hl := lv_entry ([.int 5, .int 0, .int 7]) (n := 3) (Nat.le_of_ble_eq_true rfl)
  rw [lg_entry_eq]
  generalize (lg_sl ([.int 5, .int 0, .int 7]) ++ List.replicate (3 - (lg_sl ([.int 5, .int 0, .int 7])).length) Slot.unset).toArray = ls at hl ⊢
  have hl : lv_has ls 3 [(0, .int 5), (1, .int 0), (2, .int 7)] := hl
  refine lv_iload_n hx hb dX16_isIn_0 rfl (lv_at hl 0 rfl) ?_
  refine lv_iload_n hx hb dX16_isIn_1 rfl (lv_at hl 1 rfl) ?_
  refine lv_icmp_lt (tgt := 14) hx hb dX16_isIn_2 (by decide) (fun c1 => absurd c1 (by decide)) (fun c1 => ?_)
  refine lv_iload_n hx hb dX16_isIn_5 rfl (lv_at hl 0 rfl) ?_
  refine lv_iload_n hx hb dX16_isIn_6 rfl (lv_at hl 2 rfl) ?_
  refine lv_icmp_gt (tgt := 14) hx hb dX16_isIn_7 (by decide) (fun c2 => absurd c2 (by decide)) (fun c2 => ?_)
  refine lv_iconst (v := 1) hx hb dX16_isIn_10 (by decide) ?_
  refine lv_goto (tgt := 15) hx hb dX16_isIn_11 (by decide) ?_
  have hP9 := hP.sub (ws' := []) [] rfl
  have hD9 := hD.sub (ws' := []) [] (by decide) rfl
  have hK9 := hK.sub (tys' := []) [] rfl
  refine W.widen (k := 0) (n := 0) (Nat.le_of_ble_eq_true rfl) (Nat.le_of_ble_eq_true rfl) ?_
  exact W.zret (v := 1) hx hb hr (by decide) (fun t ht hW => ⟨⟨_, (), rfl, rfl, by rw [ht]; exact hP9, va_K.moved hW.alike hK9, hD9⟩, hS.F ht⟩) hS.2.2 dX16_isIn_15
set_option maxHeartbeats 4000000 in
set_option maxRecDepth 100000 in
theorem kX4_size_16 (l : Launch) (dC : Nat → ClassId) (dI : Nat → Nat → Nat) (g : Nat → Nat) (sz : Nat) (h0 : Nat) (v0 : Value) (x0 : Int32) (ex0 : (0 : Int) ≤ x0.toInt ∧ x0.toInt ≤ (6 : Int)) : Met l yX4_size wbX4_size ({ frames := 0, cells := 0, slots := 0, locals := 0 }) (va_Pc [.ref h0] (fun U => U.heap.size = sz ∧ va_P (dC, dI) vwCl [(h0, .inr (11, [v0, .int x0]))] U.heap ∧ va_K (dC, dI) vwCl [] U ∧ va_D (fun _ => True) [(h0, .inr (11, [v0, .int x0]))] ∧ ns_F g (va_A [(h0, .inr (11, [v0, .int x0]))] sz) U U.heap)) (va_Qi (fun (r : Int32) (_ : Unit) => r = x0) (fun _ t => va_P (dC, dI) vwCl [(h0, .inr (11, [v0, .int x0]))] t.heap ∧ va_K (dC, dI) vwCl [] t ∧ va_D (va_A [(h0, .inr (11, [v0, .int x0]))] sz) [(h0, .inr (11, [v0, .int x0]))]) (va_A [(h0, .inr (11, [v0, .int x0]))] sz)) 0 0 (va_A [(h0, .inr (11, [v0, .int x0]))] sz) := by
  refine Met.ofW (cc := cX4_size) (maxL := 1) (ret := (some .int)) (by decide) rfl ?_
  intro p e s m args below meth c s₁ B hml hv
  obtain ⟨rfl, hsz, hP, hK, hD0, hF⟩ := hv
  have hx := B.exec
  have hb := B.bytes
  have hr := B.returns
  have hts := atoms_spec (ws := wbX4_size) B.pre
  have hta : ∀ w ∈ wsALL, w.before _ s = true := fun w h => hts w (List.mem_cons_of_mem _ h)
  have hown : s.vm.findClass RX4 = some m.cls := findClass_of_methodNamed B.named
  have hlocks := B.notSynchronized
  subst hsz
  have hD := hD0.self (sz := s.heap.size)
  generalize hAe : va_A [(h0, .inr (11, [v0, .int x0]))] s.heap.size = A at hD hF ⊢
  have hA : ∀ q : Nat, s.heap.size ≤ q → A q := fun q h => by rw [← hAe]; exact Or.inr h
  have hS : va_S A s.heap s.heap [] := va_S.rf
  have hP : va_P (dC, dI) vwCl [(h0, .inr (11, [v0, .int x0]))] s.heap := hP
  have hl := lv_entry ([.ref h0]) (n := 1) (Nat.le_of_ble_eq_true rfl)
  rw [lg_entry_eq]
  generalize (lg_sl ([.ref h0]) ++ List.replicate (1 - (lg_sl ([.ref h0])).length) Slot.unset).toArray = ls at hl ⊢
  have hl : lv_has ls 1 [(0, .ref h0)] := hl
  refine lv_aload_n hx hb dX4_size_0 rfl (lv_at hl 0 rfl) ?_
  refine va_get (D := (dC, dI)) (ci := 11) (v := .int x0) (C := RX4) (T := TX4) (N := 2) hx hb hta naX4 hown hK hP 0 rfl rfl 1 (by decide) (hta _ wm14) (fun _ h9 => h9) rfl dX4_size_1 ?_
  have hP9 := hP.sub (ws' := [(h0, .inr (11, [v0, .int x0]))]) [0] rfl
  have hD9 := hD.sub (ws' := [(h0, .inr (11, [v0, .int x0]))]) [0] (by decide) rfl
  have hK9 := hK.sub (tys' := []) [] rfl
  refine W.widen (k := 0) (n := 0) (Nat.le_of_ble_eq_true rfl) (Nat.le_of_ble_eq_true rfl) ?_
  exact W.iret (v := x0) hx hb hr (fun t ht hW => ⟨⟨_, (), rfl, rfl, by rw [ht]; exact hP9, va_K.moved hW.alike hK9, hD9⟩, hS.F ht⟩) hS.2.2 dX4_size_4
set_option maxHeartbeats 4000000 in
set_option maxRecDepth 100000 in
theorem kJ1_canEncode_fc78d_2 (l : Launch) (dC : Nat → ClassId) (dI : Nat → Nat → Nat) (g : Nat → Nat) (sz : Nat) (x0 : Int32) (ex0 : (0 : Int) ≤ x0.toInt ∧ x0.toInt ≤ (127 : Int)) : Met l yJ1_canEncode_fc78d wbJ1_canEncode_fc78d ({ frames := 0, cells := 0, slots := 0, locals := 0 }) (va_Pc [.int x0] (fun U => U.heap.size = sz ∧ va_P (dC, dI) vwCl [] U.heap ∧ va_K (dC, dI) vwCl [] U ∧ va_D (fun _ => True) [] ∧ ns_F g (va_A [] sz) U U.heap)) (va_Qi (fun (r : Int32) (_ : Unit) => r = 1) (fun _ t => va_P (dC, dI) vwCl [] t.heap ∧ va_K (dC, dI) vwCl [] t ∧ va_D (va_A [] sz) []) (va_A [] sz)) 0 0 (va_A [] sz) := by
  refine Met.ofW (cc := cJ1_canEncode_fc78d) (maxL := 1) (ret := (some .boolean)) (by decide) rfl ?_
  intro p e s m args below meth c s₁ B hml hv
  obtain ⟨rfl, hsz, hP, hK, hD0, hF⟩ := hv
  have hx := B.exec
  have hb := B.bytes
  have hr := B.returns
  have hts := atoms_spec (ws := wbJ1_canEncode_fc78d) B.pre
  have hta : ∀ w ∈ wsALL, w.before _ s = true := fun w h => hts w (List.mem_cons_of_mem _ h)
  have hown : s.vm.findClass RJ1 = some m.cls := findClass_of_methodNamed B.named
  have hlocks := B.notSynchronized
  subst hsz
  have hD := hD0.self (sz := s.heap.size)
  generalize hAe : va_A [] s.heap.size = A at hD hF ⊢
  have hA : ∀ q : Nat, s.heap.size ≤ q → A q := fun q h => by rw [← hAe]; exact Or.inr h
  have hS : va_S A s.heap s.heap [] := va_S.rf
  have hP : va_P (dC, dI) vwCl [] s.heap := hP
  have hl := lv_entry ([.int x0]) (n := 1) (Nat.le_of_ble_eq_true rfl)
  rw [lg_entry_eq]
  generalize (lg_sl ([.int x0]) ++ List.replicate (1 - (lg_sl ([.int x0])).length) Slot.unset).toArray = ls at hl ⊢
  have hl : lv_has ls 1 [(0, .int x0)] := hl
  refine lv_iload_n hx hb dJ1_canEncode_fc78d_0 rfl (lv_at hl 0 rfl) ?_
  refine lv_sipush (v := 255) hx hb dJ1_canEncode_fc78d_1 (by decide) ?_
  refine lv_icmp_gt (tgt := 11) hx hb dJ1_canEncode_fc78d_4 (by decide) (fun c1 => absurd c1 (fun z => absurd (show (255 : Int) < x0.toInt from Int32.lt_iff_toInt_lt.mp z) (by omega))) (fun c1 => ?_)
  refine lv_iconst (v := 1) hx hb dJ1_canEncode_fc78d_7 (by decide) ?_
  refine lv_goto (tgt := 12) hx hb dJ1_canEncode_fc78d_8 (by decide) ?_
  have hP9 := hP.sub (ws' := []) [] rfl
  have hD9 := hD.sub (ws' := []) [] (by decide) rfl
  have hK9 := hK.sub (tys' := []) [] rfl
  refine W.widen (k := 0) (n := 0) (Nat.le_of_ble_eq_true rfl) (Nat.le_of_ble_eq_true rfl) ?_
  exact W.zret (v := 1) hx hb hr (by decide) (fun t ht hW => ⟨⟨_, (), rfl, rfl, by rw [ht]; exact hP9, va_K.moved hW.alike hK9, hD9⟩, hS.F ht⟩) hS.2.2 dJ1_canEncode_fc78d_12
set_option maxHeartbeats 4000000 in
set_option maxRecDepth 100000 in
theorem kX4_size_5 (l : Launch) (dC : Nat → ClassId) (dI : Nat → Nat → Nat) (g : Nat → Nat) (sz : Nat) (h0 : Nat) (v0 : Value) : Met l yX4_size wbX4_size ({ frames := 0, cells := 0, slots := 0, locals := 0 }) (va_Pc [.ref h0] (fun U => U.heap.size = sz ∧ va_P (dC, dI) vwCl [(h0, .inr (11, [v0, .int 4]))] U.heap ∧ va_K (dC, dI) vwCl [] U ∧ va_D (fun _ => True) [(h0, .inr (11, [v0, .int 4]))] ∧ ns_F g (va_A [(h0, .inr (11, [v0, .int 4]))] sz) U U.heap)) (va_Qi (fun (r : Int32) (_ : Unit) => r = 4) (fun _ t => va_P (dC, dI) vwCl [(h0, .inr (11, [v0, .int 4]))] t.heap ∧ va_K (dC, dI) vwCl [] t ∧ va_D (va_A [(h0, .inr (11, [v0, .int 4]))] sz) [(h0, .inr (11, [v0, .int 4]))]) (va_A [(h0, .inr (11, [v0, .int 4]))] sz)) 0 0 (va_A [(h0, .inr (11, [v0, .int 4]))] sz) := by
  refine Met.ofW (cc := cX4_size) (maxL := 1) (ret := (some .int)) (by decide) rfl ?_
  intro p e s m args below meth c s₁ B hml hv
  obtain ⟨rfl, hsz, hP, hK, hD0, hF⟩ := hv
  have hx := B.exec
  have hb := B.bytes
  have hr := B.returns
  have hts := atoms_spec (ws := wbX4_size) B.pre
  have hta : ∀ w ∈ wsALL, w.before _ s = true := fun w h => hts w (List.mem_cons_of_mem _ h)
  have hown : s.vm.findClass RX4 = some m.cls := findClass_of_methodNamed B.named
  have hlocks := B.notSynchronized
  subst hsz
  have hD := hD0.self (sz := s.heap.size)
  generalize hAe : va_A [(h0, .inr (11, [v0, .int 4]))] s.heap.size = A at hD hF ⊢
  have hA : ∀ q : Nat, s.heap.size ≤ q → A q := fun q h => by rw [← hAe]; exact Or.inr h
  have hS : va_S A s.heap s.heap [] := va_S.rf
  have hP : va_P (dC, dI) vwCl [(h0, .inr (11, [v0, .int 4]))] s.heap := hP
  have hl := lv_entry ([.ref h0]) (n := 1) (Nat.le_of_ble_eq_true rfl)
  rw [lg_entry_eq]
  generalize (lg_sl ([.ref h0]) ++ List.replicate (1 - (lg_sl ([.ref h0])).length) Slot.unset).toArray = ls at hl ⊢
  have hl : lv_has ls 1 [(0, .ref h0)] := hl
  refine lv_aload_n hx hb dX4_size_0 rfl (lv_at hl 0 rfl) ?_
  refine va_get (D := (dC, dI)) (ci := 11) (v := .int 4) (C := RX4) (T := TX4) (N := 2) hx hb hta naX4 hown hK hP 0 rfl rfl 1 (by decide) (hta _ wm14) (fun _ h9 => h9) rfl dX4_size_1 ?_
  have hP9 := hP.sub (ws' := [(h0, .inr (11, [v0, .int 4]))]) [0] rfl
  have hD9 := hD.sub (ws' := [(h0, .inr (11, [v0, .int 4]))]) [0] (by decide) rfl
  have hK9 := hK.sub (tys' := []) [] rfl
  refine W.widen (k := 0) (n := 0) (Nat.le_of_ble_eq_true rfl) (Nat.le_of_ble_eq_true rfl) ?_
  exact W.iret (v := 4) hx hb hr (fun t ht hW => ⟨⟨_, (), rfl, rfl, by rw [ht]; exact hP9, va_K.moved hW.alike hK9, hD9⟩, hS.F ht⟩) hS.2.2 dX4_size_4
set_option maxHeartbeats 4000000 in
set_option maxRecDepth 100000 in
theorem kX16_isIn (l : Launch) (dC : Nat → ClassId) (dI : Nat → Nat → Nat) (g : Nat → Nat) (sz : Nat) (x0 : Int32) (ex0 : (-2147483648 : Int) ≤ x0.toInt ∧ x0.toInt ≤ (-1 : Int)) : Met l yX16_isIn wbX16_isIn ({ frames := 0, cells := 0, slots := 0, locals := 0 }) (va_Pc [.int x0, .int 0, .int 25] (fun U => U.heap.size = sz ∧ va_P (dC, dI) vwCl [] U.heap ∧ va_K (dC, dI) vwCl [] U ∧ va_D (fun _ => True) [] ∧ ns_F g (va_A [] sz) U U.heap)) (va_Qi (fun (r : Int32) (_ : Unit) => r = 0) (fun _ t => va_P (dC, dI) vwCl [] t.heap ∧ va_K (dC, dI) vwCl [] t ∧ va_D (va_A [] sz) []) (va_A [] sz)) 0 0 (va_A [] sz) := by
  refine Met.ofW (cc := cX16_isIn) (maxL := 3) (ret := (some .boolean)) (by decide) rfl ?_
  intro p e s m args below meth c s₁ B hml hv
  obtain ⟨rfl, hsz, hP, hK, hD0, hF⟩ := hv
  have hx := B.exec
  have hb := B.bytes
  have hr := B.returns
  have hts := atoms_spec (ws := wbX16_isIn) B.pre
  have hta : ∀ w ∈ wsALL, w.before _ s = true := fun w h => hts w (List.mem_cons_of_mem _ h)
  have hown : s.vm.findClass RX16 = some m.cls := findClass_of_methodNamed B.named
  have hlocks := B.notSynchronized
  subst hsz
  have hD := hD0.self (sz := s.heap.size)
  generalize hAe : va_A [] s.heap.size = A at hD hF ⊢
  have hA : ∀ q : Nat, s.heap.size ≤ q → A q := fun q h => by rw [← hAe]; exact Or.inr h
  have hS : va_S A s.heap s.heap [] := va_S.rf
  have hP : va_P (dC, dI) vwCl [] s.heap := hP
  have hl := lv_entry ([.int x0, .int 0, .int 25]) (n := 3) (Nat.le_of_ble_eq_true rfl)
  rw [lg_entry_eq]
  generalize (lg_sl ([.int x0, .int 0, .int 25]) ++ List.replicate (3 - (lg_sl ([.int x0, .int 0, .int 25])).length) Slot.unset).toArray = ls at hl ⊢
  have hl : lv_has ls 3 [(0, .int x0), (1, .int 0), (2, .int 25)] := hl
  refine lv_iload_n hx hb dX16_isIn_0 rfl (lv_at hl 0 rfl) ?_
  refine lv_iload_n hx hb dX16_isIn_1 rfl (lv_at hl 1 rfl) ?_
  refine lv_icmp_lt (tgt := 14) hx hb dX16_isIn_2 (by decide) (fun c1 => ?_) (fun c1 => absurd (show x0 < (0 : Int32) from Int32.lt_iff_toInt_lt.mpr (show x0.toInt < (0 : Int) by omega)) c1)
  refine lv_iconst (v := 0) hx hb dX16_isIn_14 (by decide) ?_
  have hP9 := hP.sub (ws' := []) [] rfl
  have hD9 := hD.sub (ws' := []) [] (by decide) rfl
  have hK9 := hK.sub (tys' := []) [] rfl
  refine W.widen (k := 0) (n := 0) (Nat.le_of_ble_eq_true rfl) (Nat.le_of_ble_eq_true rfl) ?_
  exact W.zret (v := 0) hx hb hr (by decide) (fun t ht hW => ⟨⟨_, (), rfl, rfl, by rw [ht]; exact hP9, va_K.moved hW.alike hK9, hD9⟩, hS.F ht⟩) hS.2.2 dX16_isIn_15
set_option maxHeartbeats 4000000 in
set_option maxRecDepth 100000 in
theorem kJxa1e45_init_da8c8 (l : Launch) (dC : Nat → ClassId) (dI : Nat → Nat → Nat) (g : Nat → Nat) (sz : Nat) (h0 : Nat) : Met l yJxa1e45_init_da8c8 wbJxa1e45_init_da8c8 ({ frames := 1, cells := 0, slots := 0, locals := 12 }) (va_Pc [.ref h0] (fun U => U.heap.size = sz ∧ va_P (dC, dI) vwCl [] U.heap ∧ va_K (dC, dI) vwCl [] U ∧ va_D (fun _ => True) [] ∧ ns_F g (va_A [] sz) U U.heap)) (va_Qv (fun _ : Unit => True) (fun _ t => va_P (dC, dI) vwCl [] t.heap ∧ va_K (dC, dI) vwCl [] t ∧ va_D (va_A [] sz) []) (va_A [] sz)) 0 0 (va_A [] sz) := by
  refine Met.ofW (cc := cJxa1e45_init_da8c8) (maxL := 1) (ret := none) (by decide) rfl ?_
  intro p e s m args below meth c s₁ B hml hv
  obtain ⟨rfl, hsz, hP, hK, hD0, hF⟩ := hv
  have hx := B.exec
  have hb := B.bytes
  have hr := B.returns
  have hts := atoms_spec (ws := wbJxa1e45_init_da8c8) B.pre
  have hta : ∀ w ∈ wsALL, w.before _ s = true := fun w h => hts w (List.mem_cons_of_mem _ h)
  have hown : s.vm.findClass RJxa1e45 = some m.cls := findClass_of_methodNamed B.named
  have hlocks := B.notSynchronized
  have hin : meth.name = "<init>" := (name_of_methodNamed B.named B.method).1
  subst hsz
  have hD := hD0.self (sz := s.heap.size)
  generalize hAe : va_A [] s.heap.size = A at hD hF ⊢
  have hA : ∀ q : Nat, s.heap.size ≤ q → A q := fun q h => by rw [← hAe]; exact Or.inr h
  have hS : va_S A s.heap s.heap [] := va_S.rf
  have hP : va_P (dC, dI) vwCl [] s.heap := hP
  have hl := lv_entry ([.ref h0]) (n := 1) (Nat.le_of_ble_eq_true rfl)
  rw [lg_entry_eq]
  generalize (lg_sl ([.ref h0]) ++ List.replicate (1 - (lg_sl ([.ref h0])).length) Slot.unset).toArray = ls at hl ⊢
  have hl : lv_has ls 1 [(0, .ref h0)] := hl
  refine lv_aload_n hx hb dJxa1e45_init_da8c8_0 rfl (lv_at hl 0 rfl) ?_
  refine W.objInit hx hb hown (hta _ wm197) (hta _ wm4) (hta _ wm5) rfl (by rw [hml]; exact hl.1) rfl dJxa1e45_init_da8c8_1 (Nat.le_of_ble_eq_true rfl) (Nat.le_of_ble_eq_true rfl) ?_
  refine W.eq (g2 := F0 m 4 ls []) rfl ?_
  have hP9 := hP.sub (ws' := []) [] rfl
  have hD9 := hD.sub (ws' := []) [] (by decide) rfl
  have hK9 := hK.sub (tys' := []) [] rfl
  refine W.widen (k := 0) (n := 0) (Nat.le_of_ble_eq_true rfl) (Nat.le_of_ble_eq_true rfl) ?_
  exact W.vret hx hb hr (fun t ht hW => ⟨⟨(), rfl, trivial, by rw [ht]; exact hP9, va_K.moved hW.alike hK9, hD9⟩, hS.F ht⟩) hS.2.2 dJxa1e45_init_da8c8_4
set_option maxHeartbeats 4000000 in
set_option maxRecDepth 100000 in
theorem kJ7_checkLength_df160_9 (l : Launch) (dC : Nat → ClassId) (dI : Nat → Nat → Nat) (g : Nat → Nat) (sz : Nat)  : Met l yJ7_checkLength_df160 wbJ7_checkLength_df160 ({ frames := 0, cells := 0, slots := 0, locals := 0 }) (va_Pc [.int 0, .int 9] (fun U => U.heap.size = sz ∧ va_P (dC, dI) vwCl [] U.heap ∧ va_K (dC, dI) vwCl [] U ∧ va_D (fun _ => True) [] ∧ ns_F g (va_A [] sz) U U.heap)) (va_Qv (fun _ : Unit => True) (fun _ t => va_P (dC, dI) vwCl [] t.heap ∧ va_K (dC, dI) vwCl [] t ∧ va_D (va_A [] sz) []) (va_A [] sz)) 0 0 (va_A [] sz) := by
  refine Met.ofW (cc := cJ7_checkLength_df160) (maxL := 2) (ret := none) (by decide) rfl ?_
  intro p e s m args below meth c s₁ B hml hv
  obtain ⟨rfl, hsz, hP, hK, hD0, hF⟩ := hv
  have hx := B.exec
  have hb := B.bytes
  have hr := B.returns
  have hts := atoms_spec (ws := wbJ7_checkLength_df160) B.pre
  have hta : ∀ w ∈ wsALL, w.before _ s = true := fun w h => hts w (List.mem_cons_of_mem _ h)
  have hown : s.vm.findClass RJ7 = some m.cls := findClass_of_methodNamed B.named
  have hlocks := B.notSynchronized
  subst hsz
  have hD := hD0.self (sz := s.heap.size)
  generalize hAe : va_A [] s.heap.size = A at hD hF ⊢
  have hA : ∀ q : Nat, s.heap.size ≤ q → A q := fun q h => by rw [← hAe]; exact Or.inr h
  have hS : va_S A s.heap s.heap [] := va_S.rf
  have hP : va_P (dC, dI) vwCl [] s.heap := hP
  have hl := lv_entry ([.int 0, .int 9]) (n := 2) (Nat.le_of_ble_eq_true rfl)
  rw [lg_entry_eq]
  generalize (lg_sl ([.int 0, .int 9]) ++ List.replicate (2 - (lg_sl ([.int 0, .int 9])).length) Slot.unset).toArray = ls at hl ⊢
  have hl : lv_has ls 2 [(0, .int 0), (1, .int 9)] := hl
  refine lv_iload_n hx hb dJ7_checkLength_df160_0 rfl (lv_at hl 1 rfl) ?_
  refine lv_iload_n hx hb dJ7_checkLength_df160_1 rfl (lv_at hl 0 rfl) ?_
  refine lv_icmp_ge (tgt := 37) hx hb dJ7_checkLength_df160_2 (by decide) (fun c1 => ?_) (fun c1 => absurd (by decide) c1)
  have hP9 := hP.sub (ws' := []) [] rfl
  have hD9 := hD.sub (ws' := []) [] (by decide) rfl
  have hK9 := hK.sub (tys' := []) [] rfl
  refine W.widen (k := 0) (n := 0) (Nat.le_of_ble_eq_true rfl) (Nat.le_of_ble_eq_true rfl) ?_
  exact W.vret hx hb hr (fun t ht hW => ⟨⟨(), rfl, trivial, by rw [ht]; exact hP9, va_K.moved hW.alike hK9, hD9⟩, hS.F ht⟩) hS.2.2 dJ7_checkLength_df160_37
