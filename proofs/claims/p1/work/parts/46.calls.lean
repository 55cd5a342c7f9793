
set_option maxHeartbeats 4000000 in
set_option maxRecDepth 100000 in
theorem ns_say_1_0 {p : Program} {l : Launch} {e : Env} {s : State} {m : MethodId} {args : Array Value} {below : List Frame} {meth : Method} {c : Code} {dC : Nat → ClassId} {dI : Nat → Nat → Nat} {g : Nat → Nat} {A : Nat → Prop} {Q : State → Prop} {h0 : Nat} {x0 : Int32} {x1 : Int32} {x2 : Int32} {x3 : Int32} {x4 : Int32} {x5 : Int32} {v1 : Value} {v2 : Value} {v3 : Value} {v4 : Value} {v5 : Value} {v6 : Value} {v7 : Value} {q1 : Nat} {cyq1 : ClassId} {H : Heap} {locs : List Loc} {ls : Array Slot} {E9 : Int32} (hE : E9 = 0) (ex0 : (-1 : Int) ≤ x0.toInt ∧ x0.toInt ≤ (21 : Int)) (ex1 : (-1 : Int) ≤ x1.toInt ∧ x1.toInt ≤ (21 : Int)) (ex2 : (-1 : Int) ≤ x2.toInt ∧ x2.toInt ≤ (21 : Int)) (ex3 : (-1 : Int) ≤ x3.toInt ∧ x3.toInt ≤ (21 : Int)) (ex4 : (-1 : Int) ≤ x4.toInt ∧ x4.toInt ≤ (21 : Int)) (ex5 : (-1 : Int) ≤ x5.toInt ∧ x5.toInt ≤ (21 : Int)) (hx : p.tables.exec = Jvm.exec) (hb : c.code = cX16_say) (hml : c.maxLocals = 14) (hown : s.vm.findClass RX16 = some m.cls) (hts : ∀ w ∈ wbX16_say, w.before args s = true) (hA : ∀ q : Nat, s.heap.size ≤ q → A q) (hF : ns_F g A s s.heap) (hK : va_K (dC, dI) vwCl [(cyq1, .int)] s) (hP : va_P (dC, dI) vwCl [(h0, .inr (23, [.int 0, v1, v2, v3, .ref (g 34), v4, v5, v6, v7])), (q1, .inl (cyq1, 6, .inl (upd (upd (upd (upd (upd (upd (fun _ => 0) 0 x0) 1 x1) 2 x2) 3 x3) 4 x4) 5 x5)))] H) (hD : va_D A [(h0, .inr (23, [.int 0, v1, v2, v3, .ref (g 34), v4, v5, v6, v7])), (q1, .inl (cyq1, 6, .inl (upd (upd (upd (upd (upd (upd (fun _ => 0) 0 x0) 1 x1) 2 x2) 3 x3) 4 x4) 5 x5)))]) (hS : va_S A s.heap H locs) (hl : lv_has ls 14 [(12, .int 1), (11, .int 6), (10, .ref q1), (9, .ref (g 34)), (0, .ref h0)]) (k09 : ∀ (H : Heap) (locs : List Loc) (ls : Array Slot), (ns_len (ns_len (ns_len (ns_len (ns_len E9 x1) x2) x3) x4) x5) = 0 → va_K (dC, dI) vwCl [(cyq1, .int)] s → va_P (dC, dI) vwCl [(h0, .inr (23, [.int 0, v1, v2, v3, .ref (g 34), v4, v5, v6, v7])), (q1, .inl (cyq1, 6, .inl (upd (upd (upd (upd (upd (upd (fun _ => 0) 0 x0) 1 x1) 2 x2) 3 x3) 4 x4) 5 x5)))] H → va_D A [(h0, .inr (23, [.int 0, v1, v2, v3, .ref (g 34), v4, v5, v6, v7])), (q1, .inl (cyq1, 6, .inl (upd (upd (upd (upd (upd (upd (fun _ => 0) 0 x0) 1 x1) 2 x2) 3 x3) 4 x4) 5 x5)))] → va_S A s.heap H locs → lv_has ls 14 [(9, .ref (g 34)), (0, .ref h0)] → W p l e ({ frames := 7, cells := 37, slots := 246, locals := 172 } : Room) s m args below meth c H locs 37 246 Q (F0 m 173 ls [])) (k19 : ∀ (t9 b9 : Nat) (cb9 : ClassId) (fb9 : Nat → Int32) (hb9 : sb_Fit fb9), ∀ (H : Heap) (locs : List Loc) (ls : Array Slot), (ns_len (ns_len (ns_len (ns_len (ns_len E9 x1) x2) x3) x4) x5) = 1 → va_K (dC, dI) vwCl [(cyq1, .int), (cb9, .byte)] s → va_P (dC, dI) vwCl [(h0, .inr (23, [.int 0, v1, v2, v3, .ref (g 34), v4, v5, v6, v7])), (q1, .inl (cyq1, 6, .inl (upd (upd (upd (upd (upd (upd (fun _ => 0) 0 x0) 1 x1) 2 x2) 3 x3) 4 x4) 5 x5))), (t9, .inr (0, [.ref b9, .int 0, .int 0, .int 0])), (b9, .inl (cb9, 1, .inl fb9))] H → va_D A [(h0, .inr (23, [.int 0, v1, v2, v3, .ref (g 34), v4, v5, v6, v7])), (q1, .inl (cyq1, 6, .inl (upd (upd (upd (upd (upd (upd (fun _ => 0) 0 x0) 1 x1) 2 x2) 3 x3) 4 x4) 5 x5))), (t9, .inr (0, [.ref b9, .int 0, .int 0, .int 0])), (b9, .inl (cb9, 1, .inl fb9))] → va_S A s.heap H locs → lv_has ls 14 [(9, .ref t9), (0, .ref h0)] → W p l e ({ frames := 7, cells := 37, slots := 246, locals := 172 } : Room) s m args below meth c H locs 37 246 Q (F0 m 173 ls [])) (k29 : ∀ (t9 b9 : Nat) (cb9 : ClassId) (fb9 : Nat → Int32) (hb9 : sb_Fit fb9), ∀ (H : Heap) (locs : List Loc) (ls : Array Slot), (ns_len (ns_len (ns_len (ns_len (ns_len E9 x1) x2) x3) x4) x5) = 2 → va_K (dC, dI) vwCl [(cyq1, .int), (cb9, .byte)] s → va_P (dC, dI) vwCl [(h0, .inr (23, [.int 0, v1, v2, v3, .ref (g 34), v4, v5, v6, v7])), (q1, .inl (cyq1, 6, .inl (upd (upd (upd (upd (upd (upd (fun _ => 0) 0 x0) 1 x1) 2 x2) 3 x3) 4 x4) 5 x5))), (t9, .inr (0, [.ref b9, .int 0, .int 0, .int 0])), (b9, .inl (cb9, 2, .inl fb9))] H → va_D A [(h0, .inr (23, [.int 0, v1, v2, v3, .ref (g 34), v4, v5, v6, v7])), (q1, .inl (cyq1, 6, .inl (upd (upd (upd (upd (upd (upd (fun _ => 0) 0 x0) 1 x1) 2 x2) 3 x3) 4 x4) 5 x5))), (t9, .inr (0, [.ref b9, .int 0, .int 0, .int 0])), (b9, .inl (cb9, 2, .inl fb9))] → va_S A s.heap H locs → lv_has ls 14 [(9, .ref t9), (0, .ref h0)] → W p l e ({ frames := 7, cells := 37, slots := 246, locals := 172 } : Room) s m args below meth c H locs 37 246 Q (F0 m 173 ls [])) (k39 : ∀ (t9 b9 : Nat) (cb9 : ClassId) (fb9 : Nat → Int32) (hb9 : sb_Fit fb9), ∀ (H : Heap) (locs : List Loc) (ls : Array Slot), (ns_len (ns_len (ns_len (ns_len (ns_len E9 x1) x2) x3) x4) x5) = 3 → va_K (dC, dI) vwCl [(cyq1, .int), (cb9, .byte)] s → va_P (dC, dI) vwCl [(h0, .inr (23, [.int 0, v1, v2, v3, .ref (g 34), v4, v5, v6, v7])), (q1, .inl (cyq1, 6, .inl (upd (upd (upd (upd (upd (upd (fun _ => 0) 0 x0) 1 x1) 2 x2) 3 x3) 4 x4) 5 x5))), (t9, .inr (0, [.ref b9, .int 0, .int 0, .int 0])), (b9, .inl (cb9, 3, .inl fb9))] H → va_D A [(h0, .inr (23, [.int 0, v1, v2, v3, .ref (g 34), v4, v5, v6, v7])), (q1, .inl (cyq1, 6, .inl (upd (upd (upd (upd (upd (upd (fun _ => 0) 0 x0) 1 x1) 2 x2) 3 x3) 4 x4) 5 x5))), (t9, .inr (0, [.ref b9, .int 0, .int 0, .int 0])), (b9, .inl (cb9, 3, .inl fb9))] → va_S A s.heap H locs → lv_has ls 14 [(9, .ref t9), (0, .ref h0)] → W p l e ({ frames := 7, cells := 37, slots := 246, locals := 172 } : Room) s m args below meth c H locs 37 246 Q (F0 m 173 ls [])) (k49 : ∀ (t9 b9 : Nat) (cb9 : ClassId) (fb9 : Nat → Int32) (hb9 : sb_Fit fb9), ∀ (H : Heap) (locs : List Loc) (ls : Array Slot), (ns_len (ns_len (ns_len (ns_len (ns_len E9 x1) x2) x3) x4) x5) = 4 → va_K (dC, dI) vwCl [(cyq1, .int), (cb9, .byte)] s → va_P (dC, dI) vwCl [(h0, .inr (23, [.int 0, v1, v2, v3, .ref (g 34), v4, v5, v6, v7])), (q1, .inl (cyq1, 6, .inl (upd (upd (upd (upd (upd (upd (fun _ => 0) 0 x0) 1 x1) 2 x2) 3 x3) 4 x4) 5 x5))), (t9, .inr (0, [.ref b9, .int 0, .int 0, .int 0])), (b9, .inl (cb9, 4, .inl fb9))] H → va_D A [(h0, .inr (23, [.int 0, v1, v2, v3, .ref (g 34), v4, v5, v6, v7])), (q1, .inl (cyq1, 6, .inl (upd (upd (upd (upd (upd (upd (fun _ => 0) 0 x0) 1 x1) 2 x2) 3 x3) 4 x4) 5 x5))), (t9, .inr (0, [.ref b9, .int 0, .int 0, .int 0])), (b9, .inl (cb9, 4, .inl fb9))] → va_S A s.heap H locs → lv_has ls 14 [(9, .ref t9), (0, .ref h0)] → W p l e ({ frames := 7, cells := 37, slots := 246, locals := 172 } : Room) s m args below meth c H locs 37 246 Q (F0 m 173 ls [])) (k59 : ∀ (t9 b9 : Nat) (cb9 : ClassId) (fb9 : Nat → Int32) (hb9 : sb_Fit fb9), ∀ (H : Heap) (locs : List Loc) (ls : Array Slot), (ns_len (ns_len (ns_len (ns_len (ns_len E9 x1) x2) x3) x4) x5) = 5 → va_K (dC, dI) vwCl [(cyq1, .int), (cb9, .byte)] s → va_P (dC, dI) vwCl [(h0, .inr (23, [.int 0, v1, v2, v3, .ref (g 34), v4, v5, v6, v7])), (q1, .inl (cyq1, 6, .inl (upd (upd (upd (upd (upd (upd (fun _ => 0) 0 x0) 1 x1) 2 x2) 3 x3) 4 x4) 5 x5))), (t9, .inr (0, [.ref b9, .int 0, .int 0, .int 0])), (b9, .inl (cb9, 5, .inl fb9))] H → va_D A [(h0, .inr (23, [.int 0, v1, v2, v3, .ref (g 34), v4, v5, v6, v7])), (q1, .inl (cyq1, 6, .inl (upd (upd (upd (upd (upd (upd (fun _ => 0) 0 x0) 1 x1) 2 x2) 3 x3) 4 x4) 5 x5))), (t9, .inr (0, [.ref b9, .int 0, .int 0, .int 0])), (b9, .inl (cb9, 5, .inl fb9))] → va_S A s.heap H locs → lv_has ls 14 [(9, .ref t9), (0, .ref h0)] → W p l e ({ frames := 7, cells := 37, slots := 246, locals := 172 } : Room) s m args below meth c H locs 37 246 Q (F0 m 173 ls [])) (k69 : ∀ (t9 b9 : Nat) (cb9 : ClassId) (fb9 : Nat → Int32) (hb9 : sb_Fit fb9), ∀ (H : Heap) (locs : List Loc) (ls : Array Slot), (ns_len (ns_len (ns_len (ns_len (ns_len E9 x1) x2) x3) x4) x5) = 6 → va_K (dC, dI) vwCl [(cyq1, .int), (cb9, .byte)] s → va_P (dC, dI) vwCl [(h0, .inr (23, [.int 0, v1, v2, v3, .ref (g 34), v4, v5, v6, v7])), (q1, .inl (cyq1, 6, .inl (upd (upd (upd (upd (upd (upd (fun _ => 0) 0 x0) 1 x1) 2 x2) 3 x3) 4 x4) 5 x5))), (t9, .inr (0, [.ref b9, .int 0, .int 0, .int 0])), (b9, .inl (cb9, 6, .inl fb9))] H → va_D A [(h0, .inr (23, [.int 0, v1, v2, v3, .ref (g 34), v4, v5, v6, v7])), (q1, .inl (cyq1, 6, .inl (upd (upd (upd (upd (upd (upd (fun _ => 0) 0 x0) 1 x1) 2 x2) 3 x3) 4 x4) 5 x5))), (t9, .inr (0, [.ref b9, .int 0, .int 0, .int 0])), (b9, .inl (cb9, 6, .inl fb9))] → va_S A s.heap H locs → lv_has ls 14 [(9, .ref t9), (0, .ref h0)] → W p l e ({ frames := 7, cells := 37, slots := 246, locals := 172 } : Room) s m args below meth c H locs 37 246 Q (F0 m 173 ls [])) : W p l e ({ frames := 7, cells := 37, slots := 246, locals := 172 } : Room) s m args below meth c H locs 7 46 Q (F0 m 119 ls []) := by
  have hta : ∀ w ∈ wsALL, w.before args s = true := fun w h => hts w (List.mem_cons_of_mem _ h)
  refine lv_iload hx hb dX16_say_119 (lv_at hl 0 rfl) ?_
  refine lv_iload hx hb dX16_say_121 (lv_at hl 1 rfl) ?_
  refine lv_icmp_ge (tgt := 173) hx hb dX16_say_123 (by decide) (fun c1001 => absurd c1001 (by decide)) (fun c1001 => ?_)
  refine lv_aload hx hb dX16_say_126 (lv_at hl 2 rfl) ?_
  refine lv_iload hx hb dX16_say_128 (lv_at hl 0 rfl) ?_
  refine va_iald hx hb hK hP 1 0 rfl rfl (vp_in_nI (n := 1) (by decide) (by decide)) dX16_say_130 ?_
  refine lv_topi (fun y1002 ey1002 => ?_)
  obtain rfl : x1 = y1002 := ey1002.symm
  refine lv_istore (lv' := [(13, .int x1), (12, .int 1), (11, .int 6), (10, .ref q1), (9, .ref (g 34)), (0, .ref h0)]) hx hb dX16_say_131 hl (by decide) rfl (fun ls hl => ?_)
  rcases (show ((-1 : Int) ≤ x1.toInt ∧ x1.toInt ≤ (-1 : Int)) ∨ ((0 : Int) ≤ x1.toInt ∧ x1.toInt ≤ (19 : Int)) ∨ ((20 : Int) ≤ x1.toInt ∧ x1.toInt ≤ (20 : Int)) ∨ ((21 : Int) ≤ x1.toInt ∧ x1.toInt ≤ (21 : Int)) by omega) with r13 | r13 | r13 | r13
  · have _h9 := 0
    refine lv_aload hx hb dX16_say_133 (lv_at hl 4 rfl) ?_
    refine lv_iload hx hb dX16_say_135 (lv_at hl 0 rfl) ?_
    have hPc := hP.sub (ws' := []) [] rfl
    have hDc := hD.sub (ws' := []) [] (by decide) rfl
    have hKc := hK.sub (tys' := []) [] rfl
    have hFc := va_free (wc := []) hD hS hA [] rfl
    refine va_callr (va_runS (As := [.ref (g 34), .int x1]) (rest := []) ⟨hx, hb, hml, hown, hts⟩ (kX16_said l dC dI g H.size x1 ⟨by omega, by omega⟩) (va_cwS 2 hts (ns_gp (List.forall_mem_cons.mpr ⟨wm655, (List.forall_mem_cons.mpr ⟨wm656, (List.forall_mem_cons.mpr ⟨wm192, (fun _ h9 => nomatch h9)⟩)⟩)⟩) wm604) rfl rfl rfl (by decide +kernel) ⟨Nat.le_of_ble_eq_true rfl, Nat.le_of_ble_eq_true rfl⟩) ⟨fun a U gg mk q => by obtain ⟨q0, q1, qP, qK, qD, qF⟩ := q; exact ⟨q0, q1, qP, va_K.moved (u := U) (U := U.calling gg mk a) (Vm.Alike.refl U.vm) qK, qD, ns_same qF⟩, fun U hU hW => ⟨rfl, by rw [hU], by rw [hU]; exact hPc, va_K.moved hW.alike hKc, hDc.weaken (fun _ _ _ _ => trivial), ns_call hF hS hFc hU hW⟩⟩ rfl rfl hl.1 rfl (lv_room (Nat.le_of_ble_eq_true rfl)) dX16_say_137 ⟨Nat.le_of_ble_eq_true rfl, Nat.le_of_ble_eq_true rfl⟩) hS (fun q _ h => hFc q h) hFc (fun u r9 t H1 locs ht hvm hw hB hz1 hk1 hS => ?_)
    obtain ⟨hr9, hP1, hK1, hD1⟩ := hB
    obtain rfl := hr9.symm
    rw [ht] at hP1
    have hK1 := va_K.moved hvm.symm hK1
    obtain ⟨hP, hD⟩ := va_join (wr := [(h0, .inr (23, [.int 0, v1, v2, v3, .ref (g 34), v4, v5, v6, v7])), (q1, .inl (cyq1, 6, .inl (upd (upd (upd (upd (upd (upd (fun _ => 0) 0 x0) 1 x1) 2 x2) 3 x3) 4 x4) 5 x5)))]) (w1 := []) hP hD [] [0, 1] rfl rfl (by decide) (by decide) hk1 hFc hP1 hD1
    have hK := (hK.sub (tys' := [(cyq1, .int)]) [0] rfl).app hK1
    generalize H1 = H at hP hS ⊢
    have hP : va_P (dC, dI) vwCl [(h0, .inr (23, [.int 0, v1, v2, v3, .ref (g 34), v4, v5, v6, v7])), (q1, .inl (cyq1, 6, .inl (upd (upd (upd (upd (upd (upd (fun _ => 0) 0 x0) 1 x1) 2 x2) 3 x3) 4 x4) 5 x5)))] H := hP
    have hD : va_D A [(h0, .inr (23, [.int 0, v1, v2, v3, .ref (g 34), v4, v5, v6, v7])), (q1, .inl (cyq1, 6, .inl (upd (upd (upd (upd (upd (upd (fun _ => 0) 0 x0) 1 x1) 2 x2) 3 x3) 4 x4) 5 x5)))] := hD
    have hK : va_K (dC, dI) vwCl [(cyq1, .int)] s := hK
    refine W.widen (k := 7) (n := 46) (Nat.le_of_ble_eq_true rfl) (Nat.le_of_ble_eq_true rfl) ?_
    refine lv_astore (lv' := [(9, .ref (g 34)), (13, .int x1), (12, .int 1), (11, .int 6), (10, .ref q1), (0, .ref h0)]) hx hb dX16_say_140 hl (by decide) rfl (fun ls hl => ?_)
    refine lv_aload_n hx hb dX16_say_142 rfl (lv_at hl 5 rfl) ?_
    refine lv_aload hx hb dX16_say_143 (lv_at hl 0 rfl) ?_
    have hPc := hP.sub (ws' := []) [] rfl
    have hDc := hD.sub (ws' := []) [] (by decide) rfl
    have hKc := hK.sub (tys' := []) [] rfl
    have hFc := va_free (wc := []) hD hS hA [] rfl
    refine va_calli (va_runV (As := []) (rest := [.ref h0]) ⟨hx, hb, hml, hown, hts⟩ (kJ0_length_8abf5_2 l dC dI g H.size  ) (cwV 0 hts (ns_gp (List.forall_mem_cons.mpr ⟨wm646, (List.forall_mem_cons.mpr ⟨wm595, (List.forall_mem_cons.mpr ⟨wm596, (List.forall_mem_cons.mpr ⟨wm316, (fun _ h9 => nomatch h9)⟩)⟩)⟩)⟩) wm574) rfl rfl rfl (by decide +kernel) ⟨Nat.le_of_ble_eq_true rfl, Nat.le_of_ble_eq_true rfl⟩) ⟨fun a U gg mk q => by obtain ⟨q0, q1, qP, qK, qD, qF⟩ := q; exact ⟨q0, q1, qP, va_K.moved (u := U) (U := U.calling gg mk a) (Vm.Alike.refl U.vm) qK, qD, ns_same qF⟩, va_Orecv (ns_f38 hF) hS, fun U hU hW => ⟨rfl, by rw [hU], by rw [hU]; exact hPc, va_K.moved hW.alike hKc, hDc.weaken (fun _ _ _ _ => trivial), ns_call hF hS hFc hU hW⟩⟩ rfl rfl hl.1 rfl (lv_room (Nat.le_of_ble_eq_true rfl)) dX16_say_145 ⟨Nat.le_of_ble_eq_true rfl, Nat.le_of_ble_eq_true rfl⟩) hS (fun q _ h => hFc q h) hFc (fun r9 u t H1 locs ht hvm hw hB hz1 hk1 hS => ?_)
    obtain rfl := hw.symm
    obtain ⟨hP1, hK1, hD1⟩ := hB
    rw [ht] at hP1
    have hK1 := va_K.moved hvm.symm hK1
    obtain ⟨hP, hD⟩ := va_join (wr := [(h0, .inr (23, [.int 0, v1, v2, v3, .ref (g 34), v4, v5, v6, v7])), (q1, .inl (cyq1, 6, .inl (upd (upd (upd (upd (upd (upd (fun _ => 0) 0 x0) 1 x1) 2 x2) 3 x3) 4 x4) 5 x5)))]) (w1 := []) hP hD [] [0, 1] rfl rfl (by decide) (by decide) hk1 hFc hP1 hD1
    have hK := (hK.sub (tys' := [(cyq1, .int)]) [0] rfl).app hK1
    generalize H1 = H at hP hS ⊢
    have hP : va_P (dC, dI) vwCl [(h0, .inr (23, [.int 0, v1, v2, v3, .ref (g 34), v4, v5, v6, v7])), (q1, .inl (cyq1, 6, .inl (upd (upd (upd (upd (upd (upd (fun _ => 0) 0 x0) 1 x1) 2 x2) 3 x3) 4 x4) 5 x5)))] H := hP
    have hD : va_D A [(h0, .inr (23, [.int 0, v1, v2, v3, .ref (g 34), v4, v5, v6, v7])), (q1, .inl (cyq1, 6, .inl (upd (upd (upd (upd (upd (upd (fun _ => 0) 0 x0) 1 x1) 2 x2) 3 x3) 4 x4) 5 x5)))] := hD
    have hK : va_K (dC, dI) vwCl [(cyq1, .int)] s := hK
    refine W.widen (k := 7) (n := 46) (Nat.le_of_ble_eq_true rfl) (Nat.le_of_ble_eq_true rfl) ?_
    refine lv_bipush (v := 60) hx hb dX16_say_148 (by decide) ?_
    refine lv_icmp_le (tgt := 157) hx hb dX16_say_150 (by decide) (fun c1003 => ?_) (fun c1003 => absurd (by decide) c1003)
    refine lv_iconst (v := 0) hx hb dX16_say_157 (by decide) ?_
    refine lv_iconst (v := 2) hx hb dX16_say_158 (by decide) ?_
    have hPc := hP.sub (ws' := [(h0, .inr (23, [.int 0, v1, v2, v3, .ref (g 34), v4, v5, v6, v7]))]) [0] rfl
    have hDc := hD.sub (ws' := [(h0, .inr (23, [.int 0, v1, v2, v3, .ref (g 34), v4, v5, v6, v7]))]) [0] (by decide) rfl
    have hKc := hK.sub (tys' := []) [] rfl
    have hFc := va_free (wc := [(h0, .inr (23, [.int 0, v1, v2, v3, .ref (g 34), v4, v5, v6, v7]))]) hD hS hA [0] rfl
    refine va_calli (va_runV (As := [.int 0, .int 2]) (rest := []) ⟨hx, hb, hml, hown, hts⟩ (kX16_refuse_3 l dC dI g H.size h0 v1 v2 v3 (.ref (g 34)) v4 v5 v6 v7 ) (cwV 2 hts (ns_gp (List.forall_mem_cons.mpr ⟨wm236, (List.forall_mem_cons.mpr ⟨wm237, (List.forall_mem_cons.mpr ⟨wm238, (List.forall_mem_cons.mpr ⟨wm192, (fun _ h9 => nomatch h9)⟩)⟩)⟩)⟩) wm235) rfl rfl rfl (by decide +kernel) ⟨Nat.le_of_ble_eq_true rfl, Nat.le_of_ble_eq_true rfl⟩) ⟨fun a U gg mk q => by obtain ⟨q0, q1, qP, qK, qD, qF⟩ := q; exact ⟨q0, q1, qP, va_K.moved (u := U) (U := U.calling gg mk a) (Vm.Alike.refl U.vm) qK, qD, ns_same qF⟩, va_recv hK hP (ci := 23) (q0 := 0) rfl rfl, fun U hU hW => ⟨rfl, by rw [hU], by rw [hU]; exact hPc, va_K.moved hW.alike hKc, hDc.weaken (fun _ _ _ _ => trivial), ns_call hF hS hFc hU hW⟩⟩ rfl rfl hl.1 rfl (lv_room (Nat.le_of_ble_eq_true rfl)) dX16_say_159 ⟨Nat.le_of_ble_eq_true rfl, Nat.le_of_ble_eq_true rfl⟩) hS (fun q _ h => hFc q h) hFc (fun r9 u t H1 locs ht hvm hw hB hz1 hk1 hS => ?_)
    obtain rfl := hw.symm
    obtain ⟨hP1, hK1, hD1⟩ := hB
    rw [ht] at hP1
    have hK1 := va_K.moved hvm.symm hK1
    obtain ⟨hP, hD⟩ := va_join (wr := [(q1, .inl (cyq1, 6, .inl (upd (upd (upd (upd (upd (upd (fun _ => 0) 0 x0) 1 x1) 2 x2) 3 x3) 4 x4) 5 x5)))]) (w1 := [(h0, .inr (23, [.int 0, v1, v2, v3, .ref (g 34), v4, v5, v6, v7]))]) hP hD [0] [1] rfl rfl (by decide) (by decide) hk1 hFc hP1 hD1
    have hK := (hK.sub (tys' := [(cyq1, .int)]) [0] rfl).app hK1
    generalize H1 = H at hP hS ⊢
    have hP : va_P (dC, dI) vwCl [(q1, .inl (cyq1, 6, .inl (upd (upd (upd (upd (upd (upd (fun _ => 0) 0 x0) 1 x1) 2 x2) 3 x3) 4 x4) 5 x5))), (h0, .inr (23, [.int 0, v1, v2, v3, .ref (g 34), v4, v5, v6, v7]))] H := hP
    have hD : va_D A [(q1, .inl (cyq1, 6, .inl (upd (upd (upd (upd (upd (upd (fun _ => 0) 0 x0) 1 x1) 2 x2) 3 x3) 4 x4) 5 x5))), (h0, .inr (23, [.int 0, v1, v2, v3, .ref (g 34), v4, v5, v6, v7]))] := hD
    have hK : va_K (dC, dI) vwCl [(cyq1, .int)] s := hK
    refine W.widen (k := 7) (n := 46) (Nat.le_of_ble_eq_true rfl) (Nat.le_of_ble_eq_true rfl) ?_
    refine lv_if_eq (tgt := 167) hx hb dX16_say_162 (by decide) (fun c1004 => ?_) (fun c1004 => absurd (by decide) c1004)
    refine lv_iinc (v := 2) (lv' := [(12, .int 2), (9, .ref (g 34)), (13, .int x1), (11, .int 6), (10, .ref q1), (0, .ref h0)]) hx hb dX16_say_167 hl (k := 2) rfl (by decide) (by decide) rfl (fun ls hl => ?_)
    refine lv_goto (tgt := 119) hx hb dX16_say_170 (by decide) ?_
    have hP := hP.sub (ws' := [(h0, .inr (23, [.int 0, v1, v2, v3, .ref (g 34), v4, v5, v6, v7])), (q1, .inl (cyq1, 6, .inl (upd (upd (upd (upd (upd (upd (fun _ => 0) 0 x0) 1 x1) 2 x2) 3 x3) 4 x4) 5 x5)))]) [1, 0] rfl
    have hD := hD.sub (ws' := [(h0, .inr (23, [.int 0, v1, v2, v3, .ref (g 34), v4, v5, v6, v7])), (q1, .inl (cyq1, 6, .inl (upd (upd (upd (upd (upd (upd (fun _ => 0) 0 x0) 1 x1) 2 x2) 3 x3) 4 x4) 5 x5)))]) [1, 0] (by decide) rfl
    have hK := hK.sub (tys' := [(cyq1, .int)]) [0] rfl
    have hl := lv_sub hl (l' := [(12, .int 2), (11, .int 6), (10, .ref q1), (9, .ref (g 34)), (0, .ref h0)]) [0, 3, 4, 1, 5] rfl
    refine W.widen (k := 13) (n := 86) (Nat.le_of_ble_eq_true rfl) (Nat.le_of_ble_eq_true rfl) ?_
    have hE2 : ns_len E9 x1 = 0 := by rw [hE]; exact ns_lenA x1 0 (by omega)
    exact ns_say_2_0 hE2 ex0 ex1 ex2 ex3 ex4 ex5 hx hb hml hown hts hA hF hK hP hD hS hl k09 k19 k29 k39 k49 k59 k69
  · have _h9 := 0
    refine lv_aload hx hb dX16_say_133 (lv_at hl 4 rfl) ?_
    refine lv_iload hx hb dX16_say_135 (lv_at hl 0 rfl) ?_
    have hPc := hP.sub (ws' := []) [] rfl
    have hDc := hD.sub (ws' := []) [] (by decide) rfl
    have hKc := hK.sub (tys' := []) [] rfl
    have hFc := va_free (wc := []) hD hS hA [] rfl
    refine va_callr (va_runS (As := [.ref (g 34), .int x1]) (rest := []) ⟨hx, hb, hml, hown, hts⟩ (kX16_said_2 l dC dI g H.size x1 ⟨by omega, by omega⟩) (va_cwS 2 hts (ns_gp (List.forall_mem_cons.mpr ⟨wm655, (List.forall_mem_cons.mpr ⟨wm656, (List.forall_mem_cons.mpr ⟨wm192, (fun _ h9 => nomatch h9)⟩)⟩)⟩) wm604) rfl rfl rfl (by decide +kernel) ⟨Nat.le_of_ble_eq_true rfl, Nat.le_of_ble_eq_true rfl⟩) ⟨fun a U gg mk q => by obtain ⟨q0, q1, qP, qK, qD, qF⟩ := q; exact ⟨q0, q1, qP, va_K.moved (u := U) (U := U.calling gg mk a) (Vm.Alike.refl U.vm) qK, qD, ns_same qF⟩, fun U hU hW => ⟨rfl, by rw [hU], by rw [hU]; exact hPc, va_K.moved hW.alike hKc, hDc.weaken (fun _ _ _ _ => trivial), ns_call hF hS hFc hU hW⟩⟩ rfl rfl hl.1 rfl (lv_room (Nat.le_of_ble_eq_true rfl)) dX16_say_137 ⟨Nat.le_of_ble_eq_true rfl, Nat.le_of_ble_eq_true rfl⟩) hS (fun q _ h => hFc q h) hFc (fun u r9 t H1 locs ht hvm hw hB hz1 hk1 hS => ?_)
    obtain ⟨q1005, q1006, cy1007, q1008, q1009, cy1010, hr9, hP1, hK1, hD1⟩ := hB
    obtain rfl := hr9.symm
    rw [ht] at hP1
    have hK1 := va_K.moved hvm.symm hK1
    obtain ⟨hP, hD⟩ := va_join (wr := [(h0, .inr (23, [.int 0, v1, v2, v3, .ref (g 34), v4, v5, v6, v7])), (q1, .inl (cyq1, 6, .inl (upd (upd (upd (upd (upd (upd (fun _ => 0) 0 x0) 1 x1) 2 x2) 3 x3) 4 x4) 5 x5)))]) (w1 := [(q1008, .inr (0, [.ref q1009, .int 0, .int 0, .int 0])), (q1005, .inr (1, [.ref q1006, .int 0, .int 0, .int 1])), (q1006, .inl (cy1007, 16, .inl (upd ((fun _ => 0)) 0 (vp_nar .byte (ns_ch x1).toInt8.toInt32)))), (q1009, .inl (cy1010, 1, .inl (va_cpy ((upd ((fun _ => 0)) 0 (vp_nar .byte (ns_ch x1).toInt8.toInt32))) (fun _ => 0) 0 0 1)))]) hP hD [] [0, 1] rfl rfl (by decide) (by decide) hk1 hFc hP1 hD1
    have hK := (hK.sub (tys' := [(cyq1, .int)]) [0] rfl).app hK1
    generalize H1 = H at hP hS ⊢
    have hP : va_P (dC, dI) vwCl [(h0, .inr (23, [.int 0, v1, v2, v3, .ref (g 34), v4, v5, v6, v7])), (q1, .inl (cyq1, 6, .inl (upd (upd (upd (upd (upd (upd (fun _ => 0) 0 x0) 1 x1) 2 x2) 3 x3) 4 x4) 5 x5))), (q1008, .inr (0, [.ref q1009, .int 0, .int 0, .int 0])), (q1005, .inr (1, [.ref q1006, .int 0, .int 0, .int 1])), (q1006, .inl (cy1007, 16, .inl (upd ((fun _ => 0)) 0 (vp_nar .byte (ns_ch x1).toInt8.toInt32)))), (q1009, .inl (cy1010, 1, .inl (va_cpy ((upd ((fun _ => 0)) 0 (vp_nar .byte (ns_ch x1).toInt8.toInt32))) (fun _ => 0) 0 0 1)))] H := hP
    have hD : va_D A [(h0, .inr (23, [.int 0, v1, v2, v3, .ref (g 34), v4, v5, v6, v7])), (q1, .inl (cyq1, 6, .inl (upd (upd (upd (upd (upd (upd (fun _ => 0) 0 x0) 1 x1) 2 x2) 3 x3) 4 x4) 5 x5))), (q1008, .inr (0, [.ref q1009, .int 0, .int 0, .int 0])), (q1005, .inr (1, [.ref q1006, .int 0, .int 0, .int 1])), (q1006, .inl (cy1007, 16, .inl (upd ((fun _ => 0)) 0 (vp_nar .byte (ns_ch x1).toInt8.toInt32)))), (q1009, .inl (cy1010, 1, .inl (va_cpy ((upd ((fun _ => 0)) 0 (vp_nar .byte (ns_ch x1).toInt8.toInt32))) (fun _ => 0) 0 0 1)))] := hD
    have hK : va_K (dC, dI) vwCl [(cyq1, .int), (cy1007, .byte), (cy1010, .byte)] s := hK
    refine W.widen (k := 11) (n := 71) (Nat.le_of_ble_eq_true rfl) (Nat.le_of_ble_eq_true rfl) ?_
    refine lv_astore (lv' := [(9, .ref q1008), (13, .int x1), (12, .int 1), (11, .int 6), (10, .ref q1), (0, .ref h0)]) hx hb dX16_say_140 hl (by decide) rfl (fun ls hl => ?_)
    refine lv_aload_n hx hb dX16_say_142 rfl (lv_at hl 5 rfl) ?_
    refine lv_aload hx hb dX16_say_143 (lv_at hl 0 rfl) ?_
    have hPc := hP.sub (ws' := [(q1008, .inr (0, [.ref q1009, .int 0, .int 0, .int 0])), (q1009, .inl (cy1010, 1, .inl (va_cpy ((upd ((fun _ => 0)) 0 (vp_nar .byte (ns_ch x1).toInt8.toInt32))) (fun _ => 0) 0 0 1)))]) [2, 5] rfl
    have hDc := hD.sub (ws' := [(q1008, .inr (0, [.ref q1009, .int 0, .int 0, .int 0])), (q1009, .inl (cy1010, 1, .inl (va_cpy ((upd ((fun _ => 0)) 0 (vp_nar .byte (ns_ch x1).toInt8.toInt32))) (fun _ => 0) 0 0 1)))]) [2, 5] (by decide) rfl
    have hKc := hK.sub (tys' := [(cy1010, .byte)]) [2] rfl
    have hFc := va_free (wc := [(q1008, .inr (0, [.ref q1009, .int 0, .int 0, .int 0])), (q1009, .inl (cy1010, 1, .inl (va_cpy ((upd ((fun _ => 0)) 0 (vp_nar .byte (ns_ch x1).toInt8.toInt32))) (fun _ => 0) 0 0 1)))]) hD hS hA [2, 5] rfl
    refine va_calli (va_runV (As := []) (rest := [.ref h0]) ⟨hx, hb, hml, hown, hts⟩ (kJ0_length_8abf5_3 l dC dI g H.size q1008 q1009 (.int 0) (.int 0) cy1010 (va_cpy ((upd ((fun _ => 0)) 0 (vp_nar .byte (ns_ch x1).toInt8.toInt32))) (fun _ => 0) 0 0 1) (sb_fitC (sb_fitU sb_fit0 (pk_fb _)) sb_fit0) ) (cwV 0 hts (ns_gp (List.forall_mem_cons.mpr ⟨wm646, (List.forall_mem_cons.mpr ⟨wm595, (List.forall_mem_cons.mpr ⟨wm596, (List.forall_mem_cons.mpr ⟨wm316, (fun _ h9 => nomatch h9)⟩)⟩)⟩)⟩) wm574) rfl rfl rfl (by decide +kernel) ⟨Nat.le_of_ble_eq_true rfl, Nat.le_of_ble_eq_true rfl⟩) ⟨fun a U gg mk q => by obtain ⟨q0, q1, qP, qK, qD, qF⟩ := q; exact ⟨q0, q1, qP, va_K.moved (u := U) (U := U.calling gg mk a) (Vm.Alike.refl U.vm) qK, qD, ns_same qF⟩, va_recv hK hP (ci := 0) (q0 := 2) rfl rfl, fun U hU hW => ⟨rfl, by rw [hU], by rw [hU]; exact hPc, va_K.moved hW.alike hKc, hDc.weaken (fun _ _ _ _ => trivial), ns_call hF hS hFc hU hW⟩⟩ rfl rfl hl.1 rfl (lv_room (Nat.le_of_ble_eq_true rfl)) dX16_say_145 ⟨Nat.le_of_ble_eq_true rfl, Nat.le_of_ble_eq_true rfl⟩) hS (fun q _ h => hFc q h) hFc (fun r9 u t H1 locs ht hvm hw hB hz1 hk1 hS => ?_)
    obtain rfl := hw.symm
    obtain ⟨hP1, hK1, hD1⟩ := hB
    rw [ht] at hP1
    have hK1 := va_K.moved hvm.symm hK1
    obtain ⟨hP, hD⟩ := va_join (wr := [(h0, .inr (23, [.int 0, v1, v2, v3, .ref (g 34), v4, v5, v6, v7])), (q1, .inl (cyq1, 6, .inl (upd (upd (upd (upd (upd (upd (fun _ => 0) 0 x0) 1 x1) 2 x2) 3 x3) 4 x4) 5 x5))), (q1005, .inr (1, [.ref q1006, .int 0, .int 0, .int 1])), (q1006, .inl (cy1007, 16, .inl (upd ((fun _ => 0)) 0 (vp_nar .byte (ns_ch x1).toInt8.toInt32))))]) (w1 := [(q1009, .inl (cy1010, 1, .inl (va_cpy ((upd ((fun _ => 0)) 0 (vp_nar .byte (ns_ch x1).toInt8.toInt32))) (fun _ => 0) 0 0 1))), (q1008, .inr (0, [.ref q1009, .int 0, .int 0, .int 0]))]) hP hD [2, 5] [0, 1, 3, 4] rfl rfl (by decide) (by decide) hk1 hFc hP1 hD1
    have hK := (hK.sub (tys' := [(cyq1, .int), (cy1007, .byte)]) [0, 1] rfl).app hK1
    generalize H1 = H at hP hS ⊢
    have hP : va_P (dC, dI) vwCl [(h0, .inr (23, [.int 0, v1, v2, v3, .ref (g 34), v4, v5, v6, v7])), (q1, .inl (cyq1, 6, .inl (upd (upd (upd (upd (upd (upd (fun _ => 0) 0 x0) 1 x1) 2 x2) 3 x3) 4 x4) 5 x5))), (q1005, .inr (1, [.ref q1006, .int 0, .int 0, .int 1])), (q1006, .inl (cy1007, 16, .inl (upd ((fun _ => 0)) 0 (vp_nar .byte (ns_ch x1).toInt8.toInt32)))), (q1009, .inl (cy1010, 1, .inl (va_cpy ((upd ((fun _ => 0)) 0 (vp_nar .byte (ns_ch x1).toInt8.toInt32))) (fun _ => 0) 0 0 1))), (q1008, .inr (0, [.ref q1009, .int 0, .int 0, .int 0]))] H := hP
    have hD : va_D A [(h0, .inr (23, [.int 0, v1, v2, v3, .ref (g 34), v4, v5, v6, v7])), (q1, .inl (cyq1, 6, .inl (upd (upd (upd (upd (upd (upd (fun _ => 0) 0 x0) 1 x1) 2 x2) 3 x3) 4 x4) 5 x5))), (q1005, .inr (1, [.ref q1006, .int 0, .int 0, .int 1])), (q1006, .inl (cy1007, 16, .inl (upd ((fun _ => 0)) 0 (vp_nar .byte (ns_ch x1).toInt8.toInt32)))), (q1009, .inl (cy1010, 1, .inl (va_cpy ((upd ((fun _ => 0)) 0 (vp_nar .byte (ns_ch x1).toInt8.toInt32))) (fun _ => 0) 0 0 1))), (q1008, .inr (0, [.ref q1009, .int 0, .int 0, .int 0]))] := hD
    have hK : va_K (dC, dI) vwCl [(cyq1, .int), (cy1007, .byte), (cy1010, .byte)] s := hK
    refine W.widen (k := 11) (n := 71) (Nat.le_of_ble_eq_true rfl) (Nat.le_of_ble_eq_true rfl) ?_
    refine lv_bipush (v := 60) hx hb dX16_say_148 (by decide) ?_
    refine lv_icmp_le (tgt := 157) hx hb dX16_say_150 (by decide) (fun c1011 => ?_) (fun c1011 => absurd (by decide) c1011)
    refine lv_iconst (v := 0) hx hb dX16_say_157 (by decide) ?_
    refine lv_iconst (v := 2) hx hb dX16_say_158 (by decide) ?_
    have hPc := hP.sub (ws' := [(h0, .inr (23, [.int 0, v1, v2, v3, .ref (g 34), v4, v5, v6, v7]))]) [0] rfl
    have hDc := hD.sub (ws' := [(h0, .inr (23, [.int 0, v1, v2, v3, .ref (g 34), v4, v5, v6, v7]))]) [0] (by decide) rfl
    have hKc := hK.sub (tys' := []) [] rfl
    have hFc := va_free (wc := [(h0, .inr (23, [.int 0, v1, v2, v3, .ref (g 34), v4, v5, v6, v7]))]) hD hS hA [0] rfl
    refine va_calli (va_runV (As := [.int 0, .int 2]) (rest := []) ⟨hx, hb, hml, hown, hts⟩ (kX16_refuse_3 l dC dI g H.size h0 v1 v2 v3 (.ref (g 34)) v4 v5 v6 v7 ) (cwV 2 hts (ns_gp (List.forall_mem_cons.mpr ⟨wm236, (List.forall_mem_cons.mpr ⟨wm237, (List.forall_mem_cons.mpr ⟨wm238, (List.forall_mem_cons.mpr ⟨wm192, (fun _ h9 => nomatch h9)⟩)⟩)⟩)⟩) wm235) rfl rfl rfl (by decide +kernel) ⟨Nat.le_of_ble_eq_true rfl, Nat.le_of_ble_eq_true rfl⟩) ⟨fun a U gg mk q => by obtain ⟨q0, q1, qP, qK, qD, qF⟩ := q; exact ⟨q0, q1, qP, va_K.moved (u := U) (U := U.calling gg mk a) (Vm.Alike.refl U.vm) qK, qD, ns_same qF⟩, va_recv hK hP (ci := 23) (q0 := 0) rfl rfl, fun U hU hW => ⟨rfl, by rw [hU], by rw [hU]; exact hPc, va_K.moved hW.alike hKc, hDc.weaken (fun _ _ _ _ => trivial), ns_call hF hS hFc hU hW⟩⟩ rfl rfl hl.1 rfl (lv_room (Nat.le_of_ble_eq_true rfl)) dX16_say_159 ⟨Nat.le_of_ble_eq_true rfl, Nat.le_of_ble_eq_true rfl⟩) hS (fun q _ h => hFc q h) hFc (fun r9 u t H1 locs ht hvm hw hB hz1 hk1 hS => ?_)
    obtain rfl := hw.symm
    obtain ⟨hP1, hK1, hD1⟩ := hB
    rw [ht] at hP1
    have hK1 := va_K.moved hvm.symm hK1
    obtain ⟨hP, hD⟩ := va_join (wr := [(q1, .inl (cyq1, 6, .inl (upd (upd (upd (upd (upd (upd (fun _ => 0) 0 x0) 1 x1) 2 x2) 3 x3) 4 x4) 5 x5))), (q1005, .inr (1, [.ref q1006, .int 0, .int 0, .int 1])), (q1006, .inl (cy1007, 16, .inl (upd ((fun _ => 0)) 0 (vp_nar .byte (ns_ch x1).toInt8.toInt32)))), (q1009, .inl (cy1010, 1, .inl (va_cpy ((upd ((fun _ => 0)) 0 (vp_nar .byte (ns_ch x1).toInt8.toInt32))) (fun _ => 0) 0 0 1))), (q1008, .inr (0, [.ref q1009, .int 0, .int 0, .int 0]))]) (w1 := [(h0, .inr (23, [.int 0, v1, v2, v3, .ref (g 34), v4, v5, v6, v7]))]) hP hD [0] [1, 2, 3, 4, 5] rfl rfl (by decide) (by decide) hk1 hFc hP1 hD1
    have hK := (hK.sub (tys' := [(cyq1, .int), (cy1007, .byte), (cy1010, .byte)]) [0, 1, 2] rfl).app hK1
    generalize H1 = H at hP hS ⊢
    have hP : va_P (dC, dI) vwCl [(q1, .inl (cyq1, 6, .inl (upd (upd (upd (upd (upd (upd (fun _ => 0) 0 x0) 1 x1) 2 x2) 3 x3) 4 x4) 5 x5))), (q1005, .inr (1, [.ref q1006, .int 0, .int 0, .int 1])), (q1006, .inl (cy1007, 16, .inl (upd ((fun _ => 0)) 0 (vp_nar .byte (ns_ch x1).toInt8.toInt32)))), (q1009, .inl (cy1010, 1, .inl (va_cpy ((upd ((fun _ => 0)) 0 (vp_nar .byte (ns_ch x1).toInt8.toInt32))) (fun _ => 0) 0 0 1))), (q1008, .inr (0, [.ref q1009, .int 0, .int 0, .int 0])), (h0, .inr (23, [.int 0, v1, v2, v3, .ref (g 34), v4, v5, v6, v7]))] H := hP
    have hD : va_D A [(q1, .inl (cyq1, 6, .inl (upd (upd (upd (upd (upd (upd (fun _ => 0) 0 x0) 1 x1) 2 x2) 3 x3) 4 x4) 5 x5))), (q1005, .inr (1, [.ref q1006, .int 0, .int 0, .int 1])), (q1006, .inl (cy1007, 16, .inl (upd ((fun _ => 0)) 0 (vp_nar .byte (ns_ch x1).toInt8.toInt32)))), (q1009, .inl (cy1010, 1, .inl (va_cpy ((upd ((fun _ => 0)) 0 (vp_nar .byte (ns_ch x1).toInt8.toInt32))) (fun _ => 0) 0 0 1))), (q1008, .inr (0, [.ref q1009, .int 0, .int 0, .int 0])), (h0, .inr (23, [.int 0, v1, v2, v3, .ref (g 34), v4, v5, v6, v7]))] := hD
    have hK : va_K (dC, dI) vwCl [(cyq1, .int), (cy1007, .byte), (cy1010, .byte)] s := hK
    refine W.widen (k := 11) (n := 71) (Nat.le_of_ble_eq_true rfl) (Nat.le_of_ble_eq_true rfl) ?_
    refine lv_if_eq (tgt := 167) hx hb dX16_say_162 (by decide) (fun c1012 => ?_) (fun c1012 => absurd (by decide) c1012)
    refine lv_iinc (v := 2) (lv' := [(12, .int 2), (9, .ref q1008), (13, .int x1), (11, .int 6), (10, .ref q1), (0, .ref h0)]) hx hb dX16_say_167 hl (k := 2) rfl (by decide) (by decide) rfl (fun ls hl => ?_)
    refine lv_goto (tgt := 119) hx hb dX16_say_170 (by decide) ?_
    have hP := hP.sub (ws' := [(h0, .inr (23, [.int 0, v1, v2, v3, .ref (g 34), v4, v5, v6, v7])), (q1, .inl (cyq1, 6, .inl (upd (upd (upd (upd (upd (upd (fun _ => 0) 0 x0) 1 x1) 2 x2) 3 x3) 4 x4) 5 x5))), (q1008, .inr (0, [.ref q1009, .int 0, .int 0, .int 0])), (q1009, .inl (cy1010, 1, .inl (va_cpy ((upd ((fun _ => 0)) 0 (vp_nar .byte (ns_ch x1).toInt8.toInt32))) (fun _ => 0) 0 0 1)))]) [5, 0, 4, 3] rfl
    have hD := hD.sub (ws' := [(h0, .inr (23, [.int 0, v1, v2, v3, .ref (g 34), v4, v5, v6, v7])), (q1, .inl (cyq1, 6, .inl (upd (upd (upd (upd (upd (upd (fun _ => 0) 0 x0) 1 x1) 2 x2) 3 x3) 4 x4) 5 x5))), (q1008, .inr (0, [.ref q1009, .int 0, .int 0, .int 0])), (q1009, .inl (cy1010, 1, .inl (va_cpy ((upd ((fun _ => 0)) 0 (vp_nar .byte (ns_ch x1).toInt8.toInt32))) (fun _ => 0) 0 0 1)))]) [5, 0, 4, 3] (by decide) rfl
    have hK := hK.sub (tys' := [(cyq1, .int), (cy1010, .byte)]) [0, 2] rfl
    have hl := lv_sub hl (l' := [(12, .int 2), (11, .int 6), (10, .ref q1), (9, .ref q1008), (0, .ref h0)]) [0, 3, 4, 1, 5] rfl
    refine W.widen (k := 13) (n := 86) (Nat.le_of_ble_eq_true rfl) (Nat.le_of_ble_eq_true rfl) ?_
    have hE2 : ns_len E9 x1 = 1 := by rw [hE]; exact (ns_lenB x1 0 (by omega) (by omega)).trans (by decide)
    exact ns_say_2_1 (sb_fitC (sb_fitU sb_fit0 (pk_fb _)) sb_fit0) hE2 ex0 ex1 ex2 ex3 ex4 ex5 hx hb hml hown hts hA hF hK hP hD hS hl k09 k19 k29 k39 k49 k59 k69
  · have _h9 := 0
    refine lv_aload hx hb dX16_say_133 (lv_at hl 4 rfl) ?_
    refine lv_iload hx hb dX16_say_135 (lv_at hl 0 rfl) ?_
    have hPc := hP.sub (ws' := []) [] rfl
    have hDc := hD.sub (ws' := []) [] (by decide) rfl
    have hKc := hK.sub (tys' := []) [] rfl
    have hFc := va_free (wc := []) hD hS hA [] rfl
    refine va_callr (va_runS (As := [.ref (g 34), .int x1]) (rest := []) ⟨hx, hb, hml, hown, hts⟩ (kX16_said_3 l dC dI g H.size x1 ⟨by omega, by omega⟩) (va_cwS 2 hts (ns_gp (List.forall_mem_cons.mpr ⟨wm655, (List.forall_mem_cons.mpr ⟨wm656, (List.forall_mem_cons.mpr ⟨wm192, (fun _ h9 => nomatch h9)⟩)⟩)⟩) wm604) rfl rfl rfl (by decide +kernel) ⟨Nat.le_of_ble_eq_true rfl, Nat.le_of_ble_eq_true rfl⟩) ⟨fun a U gg mk q => by obtain ⟨q0, q1, qP, qK, qD, qF⟩ := q; exact ⟨q0, q1, qP, va_K.moved (u := U) (U := U.calling gg mk a) (Vm.Alike.refl U.vm) qK, qD, ns_same qF⟩, fun U hU hW => ⟨rfl, by rw [hU], by rw [hU]; exact hPc, va_K.moved hW.alike hKc, hDc.weaken (fun _ _ _ _ => trivial), ns_call hF hS hFc hU hW⟩⟩ rfl rfl hl.1 rfl (lv_room (Nat.le_of_ble_eq_true rfl)) dX16_say_137 ⟨Nat.le_of_ble_eq_true rfl, Nat.le_of_ble_eq_true rfl⟩) hS (fun q _ h => hFc q h) hFc (fun u r9 t H1 locs ht hvm hw hB hz1 hk1 hS => ?_)
    obtain ⟨hr9, hP1, hK1, hD1⟩ := hB
    obtain rfl := hr9.symm
    rw [ht] at hP1
    have hK1 := va_K.moved hvm.symm hK1
    obtain ⟨hP, hD⟩ := va_join (wr := [(h0, .inr (23, [.int 0, v1, v2, v3, .ref (g 34), v4, v5, v6, v7])), (q1, .inl (cyq1, 6, .inl (upd (upd (upd (upd (upd (upd (fun _ => 0) 0 x0) 1 x1) 2 x2) 3 x3) 4 x4) 5 x5)))]) (w1 := []) hP hD [] [0, 1] rfl rfl (by decide) (by decide) hk1 hFc hP1 hD1
    have hK := (hK.sub (tys' := [(cyq1, .int)]) [0] rfl).app hK1
    generalize H1 = H at hP hS ⊢
    have hP : va_P (dC, dI) vwCl [(h0, .inr (23, [.int 0, v1, v2, v3, .ref (g 34), v4, v5, v6, v7])), (q1, .inl (cyq1, 6, .inl (upd (upd (upd (upd (upd (upd (fun _ => 0) 0 x0) 1 x1) 2 x2) 3 x3) 4 x4) 5 x5)))] H := hP
    have hD : va_D A [(h0, .inr (23, [.int 0, v1, v2, v3, .ref (g 34), v4, v5, v6, v7])), (q1, .inl (cyq1, 6, .inl (upd (upd (upd (upd (upd (upd (fun _ => 0) 0 x0) 1 x1) 2 x2) 3 x3) 4 x4) 5 x5)))] := hD
    have hK : va_K (dC, dI) vwCl [(cyq1, .int)] s := hK
    refine W.widen (k := 7) (n := 46) (Nat.le_of_ble_eq_true rfl) (Nat.le_of_ble_eq_true rfl) ?_
    refine lv_astore (lv' := [(9, .ref (g 34)), (13, .int x1), (12, .int 1), (11, .int 6), (10, .ref q1), (0, .ref h0)]) hx hb dX16_say_140 hl (by decide) rfl (fun ls hl => ?_)
    refine lv_aload_n hx hb dX16_say_142 rfl (lv_at hl 5 rfl) ?_
    refine lv_aload hx hb dX16_say_143 (lv_at hl 0 rfl) ?_
    have hPc := hP.sub (ws' := []) [] rfl
    have hDc := hD.sub (ws' := []) [] (by decide) rfl
    have hKc := hK.sub (tys' := []) [] rfl
    have hFc := va_free (wc := []) hD hS hA [] rfl
    refine va_calli (va_runV (As := []) (rest := [.ref h0]) ⟨hx, hb, hml, hown, hts⟩ (kJ0_length_8abf5_2 l dC dI g H.size  ) (cwV 0 hts (ns_gp (List.forall_mem_cons.mpr ⟨wm646, (List.forall_mem_cons.mpr ⟨wm595, (List.forall_mem_cons.mpr ⟨wm596, (List.forall_mem_cons.mpr ⟨wm316, (fun _ h9 => nomatch h9)⟩)⟩)⟩)⟩) wm574) rfl rfl rfl (by decide +kernel) ⟨Nat.le_of_ble_eq_true rfl, Nat.le_of_ble_eq_true rfl⟩) ⟨fun a U gg mk q => by obtain ⟨q0, q1, qP, qK, qD, qF⟩ := q; exact ⟨q0, q1, qP, va_K.moved (u := U) (U := U.calling gg mk a) (Vm.Alike.refl U.vm) qK, qD, ns_same qF⟩, va_Orecv (ns_f38 hF) hS, fun U hU hW => ⟨rfl, by rw [hU], by rw [hU]; exact hPc, va_K.moved hW.alike hKc, hDc.weaken (fun _ _ _ _ => trivial), ns_call hF hS hFc hU hW⟩⟩ rfl rfl hl.1 rfl (lv_room (Nat.le_of_ble_eq_true rfl)) dX16_say_145 ⟨Nat.le_of_ble_eq_true rfl, Nat.le_of_ble_eq_true rfl⟩) hS (fun q _ h => hFc q h) hFc (fun r9 u t H1 locs ht hvm hw hB hz1 hk1 hS => ?_)
    obtain rfl := hw.symm
    obtain ⟨hP1, hK1, hD1⟩ := hB
    rw [ht] at hP1
    have hK1 := va_K.moved hvm.symm hK1
    obtain ⟨hP, hD⟩ := va_join (wr := [(h0, .inr (23, [.int 0, v1, v2, v3, .ref (g 34), v4, v5, v6, v7])), (q1, .inl (cyq1, 6, .inl (upd (upd (upd (upd (upd (upd (fun _ => 0) 0 x0) 1 x1) 2 x2) 3 x3) 4 x4) 5 x5)))]) (w1 := []) hP hD [] [0, 1] rfl rfl (by decide) (by decide) hk1 hFc hP1 hD1
    have hK := (hK.sub (tys' := [(cyq1, .int)]) [0] rfl).app hK1
    generalize H1 = H at hP hS ⊢
    have hP : va_P (dC, dI) vwCl [(h0, .inr (23, [.int 0, v1, v2, v3, .ref (g 34), v4, v5, v6, v7])), (q1, .inl (cyq1, 6, .inl (upd (upd (upd (upd (upd (upd (fun _ => 0) 0 x0) 1 x1) 2 x2) 3 x3) 4 x4) 5 x5)))] H := hP
    have hD : va_D A [(h0, .inr (23, [.int 0, v1, v2, v3, .ref (g 34), v4, v5, v6, v7])), (q1, .inl (cyq1, 6, .inl (upd (upd (upd (upd (upd (upd (fun _ => 0) 0 x0) 1 x1) 2 x2) 3 x3) 4 x4) 5 x5)))] := hD
    have hK : va_K (dC, dI) vwCl [(cyq1, .int)] s := hK
    refine W.widen (k := 7) (n := 46) (Nat.le_of_ble_eq_true rfl) (Nat.le_of_ble_eq_true rfl) ?_
    refine lv_bipush (v := 60) hx hb dX16_say_148 (by decide) ?_
    refine lv_icmp_le (tgt := 157) hx hb dX16_say_150 (by decide) (fun c1013 => ?_) (fun c1013 => absurd (by decide) c1013)
    refine lv_iconst (v := 0) hx hb dX16_say_157 (by decide) ?_
    refine lv_iconst (v := 2) hx hb dX16_say_158 (by decide) ?_
    have hPc := hP.sub (ws' := [(h0, .inr (23, [.int 0, v1, v2, v3, .ref (g 34), v4, v5, v6, v7]))]) [0] rfl
    have hDc := hD.sub (ws' := [(h0, .inr (23, [.int 0, v1, v2, v3, .ref (g 34), v4, v5, v6, v7]))]) [0] (by decide) rfl
    have hKc := hK.sub (tys' := []) [] rfl
    have hFc := va_free (wc := [(h0, .inr (23, [.int 0, v1, v2, v3, .ref (g 34), v4, v5, v6, v7]))]) hD hS hA [0] rfl
    refine va_calli (va_runV (As := [.int 0, .int 2]) (rest := []) ⟨hx, hb, hml, hown, hts⟩ (kX16_refuse_3 l dC dI g H.size h0 v1 v2 v3 (.ref (g 34)) v4 v5 v6 v7 ) (cwV 2 hts (ns_gp (List.forall_mem_cons.mpr ⟨wm236, (List.forall_mem_cons.mpr ⟨wm237, (List.forall_mem_cons.mpr ⟨wm238, (List.forall_mem_cons.mpr ⟨wm192, (fun _ h9 => nomatch h9)⟩)⟩)⟩)⟩) wm235) rfl rfl rfl (by decide +kernel) ⟨Nat.le_of_ble_eq_true rfl, Nat.le_of_ble_eq_true rfl⟩) ⟨fun a U gg mk q => by obtain ⟨q0, q1, qP, qK, qD, qF⟩ := q; exact ⟨q0, q1, qP, va_K.moved (u := U) (U := U.calling gg mk a) (Vm.Alike.refl U.vm) qK, qD, ns_same qF⟩, va_recv hK hP (ci := 23) (q0 := 0) rfl rfl, fun U hU hW => ⟨rfl, by rw [hU], by rw [hU]; exact hPc, va_K.moved hW.alike hKc, hDc.weaken (fun _ _ _ _ => trivial), ns_call hF hS hFc hU hW⟩⟩ rfl rfl hl.1 rfl (lv_room (Nat.le_of_ble_eq_true rfl)) dX16_say_159 ⟨Nat.le_of_ble_eq_true rfl, Nat.le_of_ble_eq_true rfl⟩) hS (fun q _ h => hFc q h) hFc (fun r9 u t H1 locs ht hvm hw hB hz1 hk1 hS => ?_)
    obtain rfl := hw.symm
    obtain ⟨hP1, hK1, hD1⟩ := hB
    rw [ht] at hP1
    have hK1 := va_K.moved hvm.symm hK1
    obtain ⟨hP, hD⟩ := va_join (wr := [(q1, .inl (cyq1, 6, .inl (upd (upd (upd (upd (upd (upd (fun _ => 0) 0 x0) 1 x1) 2 x2) 3 x3) 4 x4) 5 x5)))]) (w1 := [(h0, .inr (23, [.int 0, v1, v2, v3, .ref (g 34), v4, v5, v6, v7]))]) hP hD [0] [1] rfl rfl (by decide) (by decide) hk1 hFc hP1 hD1
    have hK := (hK.sub (tys' := [(cyq1, .int)]) [0] rfl).app hK1
    generalize H1 = H at hP hS ⊢
    have hP : va_P (dC, dI) vwCl [(q1, .inl (cyq1, 6, .inl (upd (upd (upd (upd (upd (upd (fun _ => 0) 0 x0) 1 x1) 2 x2) 3 x3) 4 x4) 5 x5))), (h0, .inr (23, [.int 0, v1, v2, v3, .ref (g 34), v4, v5, v6, v7]))] H := hP
    have hD : va_D A [(q1, .inl (cyq1, 6, .inl (upd (upd (upd (upd (upd (upd (fun _ => 0) 0 x0) 1 x1) 2 x2) 3 x3) 4 x4) 5 x5))), (h0, .inr (23, [.int 0, v1, v2, v3, .ref (g 34), v4, v5, v6, v7]))] := hD
    have hK : va_K (dC, dI) vwCl [(cyq1, .int)] s := hK
    refine W.widen (k := 7) (n := 46) (Nat.le_of_ble_eq_true rfl) (Nat.le_of_ble_eq_true rfl) ?_
    refine lv_if_eq (tgt := 167) hx hb dX16_say_162 (by decide) (fun c1014 => ?_) (fun c1014 => absurd (by decide) c1014)
    refine lv_iinc (v := 2) (lv' := [(12, .int 2), (9, .ref (g 34)), (13, .int x1), (11, .int 6), (10, .ref q1), (0, .ref h0)]) hx hb dX16_say_167 hl (k := 2) rfl (by decide) (by decide) rfl (fun ls hl => ?_)
    refine lv_goto (tgt := 119) hx hb dX16_say_170 (by decide) ?_
    have hP := hP.sub (ws' := [(h0, .inr (23, [.int 0, v1, v2, v3, .ref (g 34), v4, v5, v6, v7])), (q1, .inl (cyq1, 6, .inl (upd (upd (upd (upd (upd (upd (fun _ => 0) 0 x0) 1 x1) 2 x2) 3 x3) 4 x4) 5 x5)))]) [1, 0] rfl
    have hD := hD.sub (ws' := [(h0, .inr (23, [.int 0, v1, v2, v3, .ref (g 34), v4, v5, v6, v7])), (q1, .inl (cyq1, 6, .inl (upd (upd (upd (upd (upd (upd (fun _ => 0) 0 x0) 1 x1) 2 x2) 3 x3) 4 x4) 5 x5)))]) [1, 0] (by decide) rfl
    have hK := hK.sub (tys' := [(cyq1, .int)]) [0] rfl
    have hl := lv_sub hl (l' := [(12, .int 2), (11, .int 6), (10, .ref q1), (9, .ref (g 34)), (0, .ref h0)]) [0, 3, 4, 1, 5] rfl
    refine W.widen (k := 13) (n := 86) (Nat.le_of_ble_eq_true rfl) (Nat.le_of_ble_eq_true rfl) ?_
    have hE2 : ns_len E9 x1 = 0 := by rw [hE]; exact ns_lenC0 x1 (by omega)
    exact ns_say_2_0 hE2 ex0 ex1 ex2 ex3 ex4 ex5 hx hb hml hown hts hA hF hK hP hD hS hl k09 k19 k29 k39 k49 k59 k69
  · have _h9 := 0
    refine lv_aload hx hb dX16_say_133 (lv_at hl 4 rfl) ?_
    refine lv_iload hx hb dX16_say_135 (lv_at hl 0 rfl) ?_
    have hPc := hP.sub (ws' := []) [] rfl
    have hDc := hD.sub (ws' := []) [] (by decide) rfl
    have hKc := hK.sub (tys' := []) [] rfl
    have hFc := va_free (wc := []) hD hS hA [] rfl
    refine va_callr (va_runS (As := [.ref (g 34), .int x1]) (rest := []) ⟨hx, hb, hml, hown, hts⟩ (kX16_said_4 l dC dI g H.size x1 ⟨by omega, by omega⟩) (va_cwS 2 hts (ns_gp (List.forall_mem_cons.mpr ⟨wm655, (List.forall_mem_cons.mpr ⟨wm656, (List.forall_mem_cons.mpr ⟨wm192, (fun _ h9 => nomatch h9)⟩)⟩)⟩) wm604) rfl rfl rfl (by decide +kernel) ⟨Nat.le_of_ble_eq_true rfl, Nat.le_of_ble_eq_true rfl⟩) ⟨fun a U gg mk q => by obtain ⟨q0, q1, qP, qK, qD, qF⟩ := q; exact ⟨q0, q1, qP, va_K.moved (u := U) (U := U.calling gg mk a) (Vm.Alike.refl U.vm) qK, qD, ns_same qF⟩, fun U hU hW => ⟨rfl, by rw [hU], by rw [hU]; exact hPc, va_K.moved hW.alike hKc, hDc.weaken (fun _ _ _ _ => trivial), ns_call hF hS hFc hU hW⟩⟩ rfl rfl hl.1 rfl (lv_room (Nat.le_of_ble_eq_true rfl)) dX16_say_137 ⟨Nat.le_of_ble_eq_true rfl, Nat.le_of_ble_eq_true rfl⟩) hS (fun q _ h => hFc q h) hFc (fun u r9 t H1 locs ht hvm hw hB hz1 hk1 hS => ?_)
    obtain ⟨hr9, hP1, hK1, hD1⟩ := hB
    obtain rfl := hr9.symm
    rw [ht] at hP1
    have hK1 := va_K.moved hvm.symm hK1
    obtain ⟨hP, hD⟩ := va_join (wr := [(h0, .inr (23, [.int 0, v1, v2, v3, .ref (g 34), v4, v5, v6, v7])), (q1, .inl (cyq1, 6, .inl (upd (upd (upd (upd (upd (upd (fun _ => 0) 0 x0) 1 x1) 2 x2) 3 x3) 4 x4) 5 x5)))]) (w1 := []) hP hD [] [0, 1] rfl rfl (by decide) (by decide) hk1 hFc hP1 hD1
    have hK := (hK.sub (tys' := [(cyq1, .int)]) [0] rfl).app hK1
    generalize H1 = H at hP hS ⊢
    have hP : va_P (dC, dI) vwCl [(h0, .inr (23, [.int 0, v1, v2, v3, .ref (g 34), v4, v5, v6, v7])), (q1, .inl (cyq1, 6, .inl (upd (upd (upd (upd (upd (upd (fun _ => 0) 0 x0) 1 x1) 2 x2) 3 x3) 4 x4) 5 x5)))] H := hP
    have hD : va_D A [(h0, .inr (23, [.int 0, v1, v2, v3, .ref (g 34), v4, v5, v6, v7])), (q1, .inl (cyq1, 6, .inl (upd (upd (upd (upd (upd (upd (fun _ => 0) 0 x0) 1 x1) 2 x2) 3 x3) 4 x4) 5 x5)))] := hD
    have hK : va_K (dC, dI) vwCl [(cyq1, .int)] s := hK
    refine W.widen (k := 7) (n := 46) (Nat.le_of_ble_eq_true rfl) (Nat.le_of_ble_eq_true rfl) ?_
    refine lv_astore (lv' := [(9, .ref (g 34)), (13, .int x1), (12, .int 1), (11, .int 6), (10, .ref q1), (0, .ref h0)]) hx hb dX16_say_140 hl (by decide) rfl (fun ls hl => ?_)
    refine lv_aload_n hx hb dX16_say_142 rfl (lv_at hl 5 rfl) ?_
    refine lv_aload hx hb dX16_say_143 (lv_at hl 0 rfl) ?_
    have hPc := hP.sub (ws' := []) [] rfl
    have hDc := hD.sub (ws' := []) [] (by decide) rfl
    have hKc := hK.sub (tys' := []) [] rfl
    have hFc := va_free (wc := []) hD hS hA [] rfl
    refine va_calli (va_runV (As := []) (rest := [.ref h0]) ⟨hx, hb, hml, hown, hts⟩ (kJ0_length_8abf5_2 l dC dI g H.size  ) (cwV 0 hts (ns_gp (List.forall_mem_cons.mpr ⟨wm646, (List.forall_mem_cons.mpr ⟨wm595, (List.forall_mem_cons.mpr ⟨wm596, (List.forall_mem_cons.mpr ⟨wm316, (fun _ h9 => nomatch h9)⟩)⟩)⟩)⟩) wm574) rfl rfl rfl (by decide +kernel) ⟨Nat.le_of_ble_eq_true rfl, Nat.le_of_ble_eq_true rfl⟩) ⟨fun a U gg mk q => by obtain ⟨q0, q1, qP, qK, qD, qF⟩ := q; exact ⟨q0, q1, qP, va_K.moved (u := U) (U := U.calling gg mk a) (Vm.Alike.refl U.vm) qK, qD, ns_same qF⟩, va_Orecv (ns_f38 hF) hS, fun U hU hW => ⟨rfl, by rw [hU], by rw [hU]; exact hPc, va_K.moved hW.alike hKc, hDc.weaken (fun _ _ _ _ => trivial), ns_call hF hS hFc hU hW⟩⟩ rfl rfl hl.1 rfl (lv_room (Nat.le_of_ble_eq_true rfl)) dX16_say_145 ⟨Nat.le_of_ble_eq_true rfl, Nat.le_of_ble_eq_true rfl⟩) hS (fun q _ h => hFc q h) hFc (fun r9 u t H1 locs ht hvm hw hB hz1 hk1 hS => ?_)
    obtain rfl := hw.symm
    obtain ⟨hP1, hK1, hD1⟩ := hB
    rw [ht] at hP1
    have hK1 := va_K.moved hvm.symm hK1
    obtain ⟨hP, hD⟩ := va_join (wr := [(h0, .inr (23, [.int 0, v1, v2, v3, .ref (g 34), v4, v5, v6, v7])), (q1, .inl (cyq1, 6, .inl (upd (upd (upd (upd (upd (upd (fun _ => 0) 0 x0) 1 x1) 2 x2) 3 x3) 4 x4) 5 x5)))]) (w1 := []) hP hD [] [0, 1] rfl rfl (by decide) (by decide) hk1 hFc hP1 hD1
    have hK := (hK.sub (tys' := [(cyq1, .int)]) [0] rfl).app hK1
    generalize H1 = H at hP hS ⊢
    have hP : va_P (dC, dI) vwCl [(h0, .inr (23, [.int 0, v1, v2, v3, .ref (g 34), v4, v5, v6, v7])), (q1, .inl (cyq1, 6, .inl (upd (upd (upd (upd (upd (upd (fun _ => 0) 0 x0) 1 x1) 2 x2) 3 x3) 4 x4) 5 x5)))] H := hP
    have hD : va_D A [(h0, .inr (23, [.int 0, v1, v2, v3, .ref (g 34), v4, v5, v6, v7])), (q1, .inl (cyq1, 6, .inl (upd (upd (upd (upd (upd (upd (fun _ => 0) 0 x0) 1 x1) 2 x2) 3 x3) 4 x4) 5 x5)))] := hD
    have hK : va_K (dC, dI) vwCl [(cyq1, .int)] s := hK
    refine W.widen (k := 7) (n := 46) (Nat.le_of_ble_eq_true rfl) (Nat.le_of_ble_eq_true rfl) ?_
    refine lv_bipush (v := 60) hx hb dX16_say_148 (by decide) ?_
    refine lv_icmp_le (tgt := 157) hx hb dX16_say_150 (by decide) (fun c1015 => ?_) (fun c1015 => absurd (by decide) c1015)
    refine lv_iconst (v := 0) hx hb dX16_say_157 (by decide) ?_
    refine lv_iconst (v := 2) hx hb dX16_say_158 (by decide) ?_
    have hPc := hP.sub (ws' := [(h0, .inr (23, [.int 0, v1, v2, v3, .ref (g 34), v4, v5, v6, v7]))]) [0] rfl
    have hDc := hD.sub (ws' := [(h0, .inr (23, [.int 0, v1, v2, v3, .ref (g 34), v4, v5, v6, v7]))]) [0] (by decide) rfl
    have hKc := hK.sub (tys' := []) [] rfl
    have hFc := va_free (wc := [(h0, .inr (23, [.int 0, v1, v2, v3, .ref (g 34), v4, v5, v6, v7]))]) hD hS hA [0] rfl
    refine va_calli (va_runV (As := [.int 0, .int 2]) (rest := []) ⟨hx, hb, hml, hown, hts⟩ (kX16_refuse_3 l dC dI g H.size h0 v1 v2 v3 (.ref (g 34)) v4 v5 v6 v7 ) (cwV 2 hts (ns_gp (List.forall_mem_cons.mpr ⟨wm236, (List.forall_mem_cons.mpr ⟨wm237, (List.forall_mem_cons.mpr ⟨wm238, (List.forall_mem_cons.mpr ⟨wm192, (fun _ h9 => nomatch h9)⟩)⟩)⟩)⟩) wm235) rfl rfl rfl (by decide +kernel) ⟨Nat.le_of_ble_eq_true rfl, Nat.le_of_ble_eq_true rfl⟩) ⟨fun a U gg mk q => by obtain ⟨q0, q1, qP, qK, qD, qF⟩ := q; exact ⟨q0, q1, qP, va_K.moved (u := U) (U := U.calling gg mk a) (Vm.Alike.refl U.vm) qK, qD, ns_same qF⟩, va_recv hK hP (ci := 23) (q0 := 0) rfl rfl, fun U hU hW => ⟨rfl, by rw [hU], by rw [hU]; exact hPc, va_K.moved hW.alike hKc, hDc.weaken (fun _ _ _ _ => trivial), ns_call hF hS hFc hU hW⟩⟩ rfl rfl hl.1 rfl (lv_room (Nat.le_of_ble_eq_true rfl)) dX16_say_159 ⟨Nat.le_of_ble_eq_true rfl, Nat.le_of_ble_eq_true rfl⟩) hS (fun q _ h => hFc q h) hFc (fun r9 u t H1 locs ht hvm hw hB hz1 hk1 hS => ?_)
    obtain rfl := hw.symm
    obtain ⟨hP1, hK1, hD1⟩ := hB
    rw [ht] at hP1
    have hK1 := va_K.moved hvm.symm hK1
    obtain ⟨hP, hD⟩ := va_join (wr := [(q1, .inl (cyq1, 6, .inl (upd (upd (upd (upd (upd (upd (fun _ => 0) 0 x0) 1 x1) 2 x2) 3 x3) 4 x4) 5 x5)))]) (w1 := [(h0, .inr (23, [.int 0, v1, v2, v3, .ref (g 34), v4, v5, v6, v7]))]) hP hD [0] [1] rfl rfl (by decide) (by decide) hk1 hFc hP1 hD1
    have hK := (hK.sub (tys' := [(cyq1, .int)]) [0] rfl).app hK1
    generalize H1 = H at hP hS ⊢
    have hP : va_P (dC, dI) vwCl [(q1, .inl (cyq1, 6, .inl (upd (upd (upd (upd (upd (upd (fun _ => 0) 0 x0) 1 x1) 2 x2) 3 x3) 4 x4) 5 x5))), (h0, .inr (23, [.int 0, v1, v2, v3, .ref (g 34), v4, v5, v6, v7]))] H := hP
    have hD : va_D A [(q1, .inl (cyq1, 6, .inl (upd (upd (upd (upd (upd (upd (fun _ => 0) 0 x0) 1 x1) 2 x2) 3 x3) 4 x4) 5 x5))), (h0, .inr (23, [.int 0, v1, v2, v3, .ref (g 34), v4, v5, v6, v7]))] := hD
    have hK : va_K (dC, dI) vwCl [(cyq1, .int)] s := hK
    refine W.widen (k := 7) (n := 46) (Nat.le_of_ble_eq_true rfl) (Nat.le_of_ble_eq_true rfl) ?_
    refine lv_if_eq (tgt := 167) hx hb dX16_say_162 (by decide) (fun c1016 => ?_) (fun c1016 => absurd (by decide) c1016)
    refine lv_iinc (v := 2) (lv' := [(12, .int 2), (9, .ref (g 34)), (13, .int x1), (11, .int 6), (10, .ref q1), (0, .ref h0)]) hx hb dX16_say_167 hl (k := 2) rfl (by decide) (by decide) rfl (fun ls hl => ?_)
    refine lv_goto (tgt := 119) hx hb dX16_say_170 (by decide) ?_
    have hP := hP.sub (ws' := [(h0, .inr (23, [.int 0, v1, v2, v3, .ref (g 34), v4, v5, v6, v7])), (q1, .inl (cyq1, 6, .inl (upd (upd (upd (upd (upd (upd (fun _ => 0) 0 x0) 1 x1) 2 x2) 3 x3) 4 x4) 5 x5)))]) [1, 0] rfl
    have hD := hD.sub (ws' := [(h0, .inr (23, [.int 0, v1, v2, v3, .ref (g 34), v4, v5, v6, v7])), (q1, .inl (cyq1, 6, .inl (upd (upd (upd (upd (upd (upd (fun _ => 0) 0 x0) 1 x1) 2 x2) 3 x3) 4 x4) 5 x5)))]) [1, 0] (by decide) rfl
    have hK := hK.sub (tys' := [(cyq1, .int)]) [0] rfl
    have hl := lv_sub hl (l' := [(12, .int 2), (11, .int 6), (10, .ref q1), (9, .ref (g 34)), (0, .ref h0)]) [0, 3, 4, 1, 5] rfl
    refine W.widen (k := 13) (n := 86) (Nat.le_of_ble_eq_true rfl) (Nat.le_of_ble_eq_true rfl) ?_
    have hE2 : ns_len E9 x1 = 0 := by rw [hE]; exact ns_lenD x1 0 (by omega)
    exact ns_say_2_0 hE2 ex0 ex1 ex2 ex3 ex4 ex5 hx hb hml hown hts hA hF hK hP hD hS hl k09 k19 k29 k39 k49 k59 k69

set_option maxHeartbeats 4000000 in
set_option maxRecDepth 100000 in
theorem ns_say_0_0 {p : Program} {l : Launch} {e : Env} {s : State} {m : MethodId} {args : Array Value} {below : List Frame} {meth : Method} {c : Code} {dC : Nat → ClassId} {dI : Nat → Nat → Nat} {g : Nat → Nat} {A : Nat → Prop} {Q : State → Prop} {h0 : Nat} {x0 : Int32} {x1 : Int32} {x2 : Int32} {x3 : Int32} {x4 : Int32} {x5 : Int32} {v1 : Value} {v2 : Value} {v3 : Value} {v4 : Value} {v5 : Value} {v6 : Value} {v7 : Value} {q1 : Nat} {cyq1 : ClassId} {H : Heap} {locs : List Loc} {ls : Array Slot} {E9 : Int32} (hE : E9 = 0) (ex0 : (-1 : Int) ≤ x0.toInt ∧ x0.toInt ≤ (21 : Int)) (ex1 : (-1 : Int) ≤ x1.toInt ∧ x1.toInt ≤ (21 : Int)) (ex2 : (-1 : Int) ≤ x2.toInt ∧ x2.toInt ≤ (21 : Int)) (ex3 : (-1 : Int) ≤ x3.toInt ∧ x3.toInt ≤ (21 : Int)) (ex4 : (-1 : Int) ≤ x4.toInt ∧ x4.toInt ≤ (21 : Int)) (ex5 : (-1 : Int) ≤ x5.toInt ∧ x5.toInt ≤ (21 : Int)) (hx : p.tables.exec = Jvm.exec) (hb : c.code = cX16_say) (hml : c.maxLocals = 14) (hown : s.vm.findClass RX16 = some m.cls) (hts : ∀ w ∈ wbX16_say, w.before args s = true) (hA : ∀ q : Nat, s.heap.size ≤ q → A q) (hF : ns_F g A s s.heap) (hK : va_K (dC, dI) vwCl [(cyq1, .int)] s) (hP : va_P (dC, dI) vwCl [(h0, .inr (23, [.int 0, v1, v2, v3, .ref (g 34), v4, v5, v6, v7])), (q1, .inl (cyq1, 6, .inl (upd (upd (upd (upd (upd (upd (fun _ => 0) 0 x0) 1 x1) 2 x2) 3 x3) 4 x4) 5 x5)))] H) (hD : va_D A [(h0, .inr (23, [.int 0, v1, v2, v3, .ref (g 34), v4, v5, v6, v7])), (q1, .inl (cyq1, 6, .inl (upd (upd (upd (upd (upd (upd (fun _ => 0) 0 x0) 1 x1) 2 x2) 3 x3) 4 x4) 5 x5)))]) (hS : va_S A s.heap H locs) (hl : lv_has ls 14 [(12, .int 0), (11, .int 6), (10, .ref q1), (9, .ref (g 34)), (0, .ref h0)]) (k09 : ∀ (H : Heap) (locs : List Loc) (ls : Array Slot), (ns_len (ns_len (ns_len (ns_len (ns_len (ns_len E9 x0) x1) x2) x3) x4) x5) = 0 → va_K (dC, dI) vwCl [(cyq1, .int)] s → va_P (dC, dI) vwCl [(h0, .inr (23, [.int 0, v1, v2, v3, .ref (g 34), v4, v5, v6, v7])), (q1, .inl (cyq1, 6, .inl (upd (upd (upd (upd (upd (upd (fun _ => 0) 0 x0) 1 x1) 2 x2) 3 x3) 4 x4) 5 x5)))] H → va_D A [(h0, .inr (23, [.int 0, v1, v2, v3, .ref (g 34), v4, v5, v6, v7])), (q1, .inl (cyq1, 6, .inl (upd (upd (upd (upd (upd (upd (fun _ => 0) 0 x0) 1 x1) 2 x2) 3 x3) 4 x4) 5 x5)))] → va_S A s.heap H locs → lv_has ls 14 [(9, .ref (g 34)), (0, .ref h0)] → W p l e ({ frames := 7, cells := 37, slots := 246, locals := 172 } : Room) s m args below meth c H locs 37 246 Q (F0 m 173 ls [])) (k19 : ∀ (t9 b9 : Nat) (cb9 : ClassId) (fb9 : Nat → Int32) (hb9 : sb_Fit fb9), ∀ (H : Heap) (locs : List Loc) (ls : Array Slot), (ns_len (ns_len (ns_len (ns_len (ns_len (ns_len E9 x0) x1) x2) x3) x4) x5) = 1 → va_K (dC, dI) vwCl [(cyq1, .int), (cb9, .byte)] s → va_P (dC, dI) vwCl [(h0, .inr (23, [.int 0, v1, v2, v3, .ref (g 34), v4, v5, v6, v7])), (q1, .inl (cyq1, 6, .inl (upd (upd (upd (upd (upd (upd (fun _ => 0) 0 x0) 1 x1) 2 x2) 3 x3) 4 x4) 5 x5))), (t9, .inr (0, [.ref b9, .int 0, .int 0, .int 0])), (b9, .inl (cb9, 1, .inl fb9))] H → va_D A [(h0, .inr (23, [.int 0, v1, v2, v3, .ref (g 34), v4, v5, v6, v7])), (q1, .inl (cyq1, 6, .inl (upd (upd (upd (upd (upd (upd (fun _ => 0) 0 x0) 1 x1) 2 x2) 3 x3) 4 x4) 5 x5))), (t9, .inr (0, [.ref b9, .int 0, .int 0, .int 0])), (b9, .inl (cb9, 1, .inl fb9))] → va_S A s.heap H locs → lv_has ls 14 [(9, .ref t9), (0, .ref h0)] → W p l e ({ frames := 7, cells := 37, slots := 246, locals := 172 } : Room) s m args below meth c H locs 37 246 Q (F0 m 173 ls [])) (k29 : ∀ (t9 b9 : Nat) (cb9 : ClassId) (fb9 : Nat → Int32) (hb9 : sb_Fit fb9), ∀ (H : Heap) (locs : List Loc) (ls : Array Slot), (ns_len (ns_len (ns_len (ns_len (ns_len (ns_len E9 x0) x1) x2) x3) x4) x5) = 2 → va_K (dC, dI) vwCl [(cyq1, .int), (cb9, .byte)] s → va_P (dC, dI) vwCl [(h0, .inr (23, [.int 0, v1, v2, v3, .ref (g 34), v4, v5, v6, v7])), (q1, .inl (cyq1, 6, .inl (upd (upd (upd (upd (upd (upd (fun _ => 0) 0 x0) 1 x1) 2 x2) 3 x3) 4 x4) 5 x5))), (t9, .inr (0, [.ref b9, .int 0, .int 0, .int 0])), (b9, .inl (cb9, 2, .inl fb9))] H → va_D A [(h0, .inr (23, [.int 0, v1, v2, v3, .ref (g 34), v4, v5, v6, v7])), (q1, .inl (cyq1, 6, .inl (upd (upd (upd (upd (upd (upd (fun _ => 0) 0 x0) 1 x1) 2 x2) 3 x3) 4 x4) 5 x5))), (t9, .inr (0, [.ref b9, .int 0, .int 0, .int 0])), (b9, .inl (cb9, 2, .inl fb9))] → va_S A s.heap H locs → lv_has ls 14 [(9, .ref t9), (0, .ref h0)] → W p l e ({ frames := 7, cells := 37, slots := 246, locals := 172 } : Room) s m args below meth c H locs 37 246 Q (F0 m 173 ls [])) (k39 : ∀ (t9 b9 : Nat) (cb9 : ClassId) (fb9 : Nat → Int32) (hb9 : sb_Fit fb9), ∀ (H : Heap) (locs : List Loc) (ls : Array Slot), (ns_len (ns_len (ns_len (ns_len (ns_len (ns_len E9 x0) x1) x2) x3) x4) x5) = 3 → va_K (dC, dI) vwCl [(cyq1, .int), (cb9, .byte)] s → va_P (dC, dI) vwCl [(h0, .inr (23, [.int 0, v1, v2, v3, .ref (g 34), v4, v5, v6, v7])), (q1, .inl (cyq1, 6, .inl (upd (upd (upd (upd (upd (upd (fun _ => 0) 0 x0) 1 x1) 2 x2) 3 x3) 4 x4) 5 x5))), (t9, .inr (0, [.ref b9, .int 0, .int 0, .int 0])), (b9, .inl (cb9, 3, .inl fb9))] H → va_D A [(h0, .inr (23, [.int 0, v1, v2, v3, .ref (g 34), v4, v5, v6, v7])), (q1, .inl (cyq1, 6, .inl (upd (upd (upd (upd (upd (upd (fun _ => 0) 0 x0) 1 x1) 2 x2) 3 x3) 4 x4) 5 x5))), (t9, .inr (0, [.ref b9, .int 0, .int 0, .int 0])), (b9, .inl (cb9, 3, .inl fb9))] → va_S A s.heap H locs → lv_has ls 14 [(9, .ref t9), (0, .ref h0)] → W p l e ({ frames := 7, cells := 37, slots := 246, locals := 172 } : Room) s m args below meth c H locs 37 246 Q (F0 m 173 ls [])) (k49 : ∀ (t9 b9 : Nat) (cb9 : ClassId) (fb9 : Nat → Int32) (hb9 : sb_Fit fb9), ∀ (H : Heap) (locs : List Loc) (ls : Array Slot), (ns_len (ns_len (ns_len (ns_len (ns_len (ns_len E9 x0) x1) x2) x3) x4) x5) = 4 → va_K (dC, dI) vwCl [(cyq1, .int), (cb9, .byte)] s → va_P (dC, dI) vwCl [(h0, .inr (23, [.int 0, v1, v2, v3, .ref (g 34), v4, v5, v6, v7])), (q1, .inl (cyq1, 6, .inl (upd (upd (upd (upd (upd (upd (fun _ => 0) 0 x0) 1 x1) 2 x2) 3 x3) 4 x4) 5 x5))), (t9, .inr (0, [.ref b9, .int 0, .int 0, .int 0])), (b9, .inl (cb9, 4, .inl fb9))] H → va_D A [(h0, .inr (23, [.int 0, v1, v2, v3, .ref (g 34), v4, v5, v6, v7])), (q1, .inl (cyq1, 6, .inl (upd (upd (upd (upd (upd (upd (fun _ => 0) 0 x0) 1 x1) 2 x2) 3 x3) 4 x4) 5 x5))), (t9, .inr (0, [.ref b9, .int 0, .int 0, .int 0])), (b9, .inl (cb9, 4, .inl fb9))] → va_S A s.heap H locs → lv_has ls 14 [(9, .ref t9), (0, .ref h0)] → W p l e ({ frames := 7, cells := 37, slots := 246, locals := 172 } : Room) s m args below meth c H locs 37 246 Q (F0 m 173 ls [])) (k59 : ∀ (t9 b9 : Nat) (cb9 : ClassId) (fb9 : Nat → Int32) (hb9 : sb_Fit fb9), ∀ (H : Heap) (locs : List Loc) (ls : Array Slot), (ns_len (ns_len (ns_len (ns_len (ns_len (ns_len E9 x0) x1) x2) x3) x4) x5) = 5 → va_K (dC, dI) vwCl [(cyq1, .int), (cb9, .byte)] s → va_P (dC, dI) vwCl [(h0, .inr (23, [.int 0, v1, v2, v3, .ref (g 34), v4, v5, v6, v7])), (q1, .inl (cyq1, 6, .inl (upd (upd (upd (upd (upd (upd (fun _ => 0) 0 x0) 1 x1) 2 x2) 3 x3) 4 x4) 5 x5))), (t9, .inr (0, [.ref b9, .int 0, .int 0, .int 0])), (b9, .inl (cb9, 5, .inl fb9))] H → va_D A [(h0, .inr (23, [.int 0, v1, v2, v3, .ref (g 34), v4, v5, v6, v7])), (q1, .inl (cyq1, 6, .inl (upd (upd (upd (upd (upd (upd (fun _ => 0) 0 x0) 1 x1) 2 x2) 3 x3) 4 x4) 5 x5))), (t9, .inr (0, [.ref b9, .int 0, .int 0, .int 0])), (b9, .inl (cb9, 5, .inl fb9))] → va_S A s.heap H locs → lv_has ls 14 [(9, .ref t9), (0, .ref h0)] → W p l e ({ frames := 7, cells := 37, slots := 246, locals := 172 } : Room) s m args below meth c H locs 37 246 Q (F0 m 173 ls [])) (k69 : ∀ (t9 b9 : Nat) (cb9 : ClassId) (fb9 : Nat → Int32) (hb9 : sb_Fit fb9), ∀ (H : Heap) (locs : List Loc) (ls : Array Slot), (ns_len (ns_len (ns_len (ns_len (ns_len (ns_len E9 x0) x1) x2) x3) x4) x5) = 6 → va_K (dC, dI) vwCl [(cyq1, .int), (cb9, .byte)] s → va_P (dC, dI) vwCl [(h0, .inr (23, [.int 0, v1, v2, v3, .ref (g 34), v4, v5, v6, v7])), (q1, .inl (cyq1, 6, .inl (upd (upd (upd (upd (upd (upd (fun _ => 0) 0 x0) 1 x1) 2 x2) 3 x3) 4 x4) 5 x5))), (t9, .inr (0, [.ref b9, .int 0, .int 0, .int 0])), (b9, .inl (cb9, 6, .inl fb9))] H → va_D A [(h0, .inr (23, [.int 0, v1, v2, v3, .ref (g 34), v4, v5, v6, v7])), (q1, .inl (cyq1, 6, .inl (upd (upd (upd (upd (upd (upd (fun _ => 0) 0 x0) 1 x1) 2 x2) 3 x3) 4 x4) 5 x5))), (t9, .inr (0, [.ref b9, .int 0, .int 0, .int 0])), (b9, .inl (cb9, 6, .inl fb9))] → va_S A s.heap H locs → lv_has ls 14 [(9, .ref t9), (0, .ref h0)] → W p l e ({ frames := 7, cells := 37, slots := 246, locals := 172 } : Room) s m args below meth c H locs 37 246 Q (F0 m 173 ls [])) : W p l e ({ frames := 7, cells := 37, slots := 246, locals := 172 } : Room) s m args below meth c H locs 1 6 Q (F0 m 119 ls []) := by
  have hta : ∀ w ∈ wsALL, w.before args s = true := fun w h => hts w (List.mem_cons_of_mem _ h)
  refine lv_iload hx hb dX16_say_119 (lv_at hl 0 rfl) ?_
  refine lv_iload hx hb dX16_say_121 (lv_at hl 1 rfl) ?_
  refine lv_icmp_ge (tgt := 173) hx hb dX16_say_123 (by decide) (fun c1001 => absurd c1001 (by decide)) (fun c1001 => ?_)
  refine lv_aload hx hb dX16_say_126 (lv_at hl 2 rfl) ?_
  refine lv_iload hx hb dX16_say_128 (lv_at hl 0 rfl) ?_
  refine va_iald hx hb hK hP 1 0 rfl rfl (vp_in_nI (n := 0) (by decide) (by decide)) dX16_say_130 ?_
  refine lv_topi (fun y1002 ey1002 => ?_)
  obtain rfl : x0 = y1002 := ey1002.symm
  refine lv_istore (lv' := [(13, .int x0), (12, .int 0), (11, .int 6), (10, .ref q1), (9, .ref (g 34)), (0, .ref h0)]) hx hb dX16_say_131 hl (by decide) rfl (fun ls hl => ?_)
  rcases (show ((-1 : Int) ≤ x0.toInt ∧ x0.toInt ≤ (-1 : Int)) ∨ ((0 : Int) ≤ x0.toInt ∧ x0.toInt ≤ (19 : Int)) ∨ ((20 : Int) ≤ x0.toInt ∧ x0.toInt ≤ (20 : Int)) ∨ ((21 : Int) ≤ x0.toInt ∧ x0.toInt ≤ (21 : Int)) by omega) with r13 | r13 | r13 | r13
  · have _h9 := 0
    refine lv_aload hx hb dX16_say_133 (lv_at hl 4 rfl) ?_
    refine lv_iload hx hb dX16_say_135 (lv_at hl 0 rfl) ?_
    have hPc := hP.sub (ws' := []) [] rfl
    have hDc := hD.sub (ws' := []) [] (by decide) rfl
    have hKc := hK.sub (tys' := []) [] rfl
    have hFc := va_free (wc := []) hD hS hA [] rfl
    refine va_callr (va_runS (As := [.ref (g 34), .int x0]) (rest := []) ⟨hx, hb, hml, hown, hts⟩ (kX16_said l dC dI g H.size x0 ⟨by omega, by omega⟩) (va_cwS 2 hts (ns_gp (List.forall_mem_cons.mpr ⟨wm655, (List.forall_mem_cons.mpr ⟨wm656, (List.forall_mem_cons.mpr ⟨wm192, (fun _ h9 => nomatch h9)⟩)⟩)⟩) wm604) rfl rfl rfl (by decide +kernel) ⟨Nat.le_of_ble_eq_true rfl, Nat.le_of_ble_eq_true rfl⟩) ⟨fun a U gg mk q => by obtain ⟨q0, q1, qP, qK, qD, qF⟩ := q; exact ⟨q0, q1, qP, va_K.moved (u := U) (U := U.calling gg mk a) (Vm.Alike.refl U.vm) qK, qD, ns_same qF⟩, fun U hU hW => ⟨rfl, by rw [hU], by rw [hU]; exact hPc, va_K.moved hW.alike hKc, hDc.weaken (fun _ _ _ _ => trivial), ns_call hF hS hFc hU hW⟩⟩ rfl rfl hl.1 rfl (lv_room (Nat.le_of_ble_eq_true rfl)) dX16_say_137 ⟨Nat.le_of_ble_eq_true rfl, Nat.le_of_ble_eq_true rfl⟩) hS (fun q _ h => hFc q h) hFc (fun u r9 t H1 locs ht hvm hw hB hz1 hk1 hS => ?_)
    obtain ⟨hr9, hP1, hK1, hD1⟩ := hB
    obtain rfl := hr9.symm
    rw [ht] at hP1
    have hK1 := va_K.moved hvm.symm hK1
    obtain ⟨hP, hD⟩ := va_join (wr := [(h0, .inr (23, [.int 0, v1, v2, v3, .ref (g 34), v4, v5, v6, v7])), (q1, .inl (cyq1, 6, .inl (upd (upd (upd (upd (upd (upd (fun _ => 0) 0 x0) 1 x1) 2 x2) 3 x3) 4 x4) 5 x5)))]) (w1 := []) hP hD [] [0, 1] rfl rfl (by decide) (by decide) hk1 hFc hP1 hD1
    have hK := (hK.sub (tys' := [(cyq1, .int)]) [0] rfl).app hK1
    generalize H1 = H at hP hS ⊢
    have hP : va_P (dC, dI) vwCl [(h0, .inr (23, [.int 0, v1, v2, v3, .ref (g 34), v4, v5, v6, v7])), (q1, .inl (cyq1, 6, .inl (upd (upd (upd (upd (upd (upd (fun _ => 0) 0 x0) 1 x1) 2 x2) 3 x3) 4 x4) 5 x5)))] H := hP
    have hD : va_D A [(h0, .inr (23, [.int 0, v1, v2, v3, .ref (g 34), v4, v5, v6, v7])), (q1, .inl (cyq1, 6, .inl (upd (upd (upd (upd (upd (upd (fun _ => 0) 0 x0) 1 x1) 2 x2) 3 x3) 4 x4) 5 x5)))] := hD
    have hK : va_K (dC, dI) vwCl [(cyq1, .int)] s := hK
    refine W.widen (k := 1) (n := 6) (Nat.le_of_ble_eq_true rfl) (Nat.le_of_ble_eq_true rfl) ?_
    refine lv_astore (lv' := [(9, .ref (g 34)), (13, .int x0), (12, .int 0), (11, .int 6), (10, .ref q1), (0, .ref h0)]) hx hb dX16_say_140 hl (by decide) rfl (fun ls hl => ?_)
    refine lv_aload_n hx hb dX16_say_142 rfl (lv_at hl 5 rfl) ?_
    refine lv_aload hx hb dX16_say_143 (lv_at hl 0 rfl) ?_
    have hPc := hP.sub (ws' := []) [] rfl
    have hDc := hD.sub (ws' := []) [] (by decide) rfl
    have hKc := hK.sub (tys' := []) [] rfl
    have hFc := va_free (wc := []) hD hS hA [] rfl
    refine va_calli (va_runV (As := []) (rest := [.ref h0]) ⟨hx, hb, hml, hown, hts⟩ (kJ0_length_8abf5_2 l dC dI g H.size  ) (cwV 0 hts (ns_gp (List.forall_mem_cons.mpr ⟨wm646, (List.forall_mem_cons.mpr ⟨wm595, (List.forall_mem_cons.mpr ⟨wm596, (List.forall_mem_cons.mpr ⟨wm316, (fun _ h9 => nomatch h9)⟩)⟩)⟩)⟩) wm574) rfl rfl rfl (by decide +kernel) ⟨Nat.le_of_ble_eq_true rfl, Nat.le_of_ble_eq_true rfl⟩) ⟨fun a U gg mk q => by obtain ⟨q0, q1, qP, qK, qD, qF⟩ := q; exact ⟨q0, q1, qP, va_K.moved (u := U) (U := U.calling gg mk a) (Vm.Alike.refl U.vm) qK, qD, ns_same qF⟩, va_Orecv (ns_f38 hF) hS, fun U hU hW => ⟨rfl, by rw [hU], by rw [hU]; exact hPc, va_K.moved hW.alike hKc, hDc.weaken (fun _ _ _ _ => trivial), ns_call hF hS hFc hU hW⟩⟩ rfl rfl hl.1 rfl (lv_room (Nat.le_of_ble_eq_true rfl)) dX16_say_145 ⟨Nat.le_of_ble_eq_true rfl, Nat.le_of_ble_eq_true rfl⟩) hS (fun q _ h => hFc q h) hFc (fun r9 u t H1 locs ht hvm hw hB hz1 hk1 hS => ?_)
    obtain rfl := hw.symm
    obtain ⟨hP1, hK1, hD1⟩ := hB
    rw [ht] at hP1
    have hK1 := va_K.moved hvm.symm hK1
    obtain ⟨hP, hD⟩ := va_join (wr := [(h0, .inr (23, [.int 0, v1, v2, v3, .ref (g 34), v4, v5, v6, v7])), (q1, .inl (cyq1, 6, .inl (upd (upd (upd (upd (upd (upd (fun _ => 0) 0 x0) 1 x1) 2 x2) 3 x3) 4 x4) 5 x5)))]) (w1 := []) hP hD [] [0, 1] rfl rfl (by decide) (by decide) hk1 hFc hP1 hD1
    have hK := (hK.sub (tys' := [(cyq1, .int)]) [0] rfl).app hK1
    generalize H1 = H at hP hS ⊢
    have hP : va_P (dC, dI) vwCl [(h0, .inr (23, [.int 0, v1, v2, v3, .ref (g 34), v4, v5, v6, v7])), (q1, .inl (cyq1, 6, .inl (upd (upd (upd (upd (upd (upd (fun _ => 0) 0 x0) 1 x1) 2 x2) 3 x3) 4 x4) 5 x5)))] H := hP
    have hD : va_D A [(h0, .inr (23, [.int 0, v1, v2, v3, .ref (g 34), v4, v5, v6, v7])), (q1, .inl (cyq1, 6, .inl (upd (upd (upd (upd (upd (upd (fun _ => 0) 0 x0) 1 x1) 2 x2) 3 x3) 4 x4) 5 x5)))] := hD
    have hK : va_K (dC, dI) vwCl [(cyq1, .int)] s := hK
    refine W.widen (k := 1) (n := 6) (Nat.le_of_ble_eq_true rfl) (Nat.le_of_ble_eq_true rfl) ?_
    refine lv_bipush (v := 60) hx hb dX16_say_148 (by decide) ?_
    refine lv_icmp_le (tgt := 157) hx hb dX16_say_150 (by decide) (fun c1003 => ?_) (fun c1003 => absurd (by decide) c1003)
    refine lv_iconst (v := 0) hx hb dX16_say_157 (by decide) ?_
    refine lv_iconst (v := 2) hx hb dX16_say_158 (by decide) ?_
    have hPc := hP.sub (ws' := [(h0, .inr (23, [.int 0, v1, v2, v3, .ref (g 34), v4, v5, v6, v7]))]) [0] rfl
    have hDc := hD.sub (ws' := [(h0, .inr (23, [.int 0, v1, v2, v3, .ref (g 34), v4, v5, v6, v7]))]) [0] (by decide) rfl
    have hKc := hK.sub (tys' := []) [] rfl
    have hFc := va_free (wc := [(h0, .inr (23, [.int 0, v1, v2, v3, .ref (g 34), v4, v5, v6, v7]))]) hD hS hA [0] rfl
    refine va_calli (va_runV (As := [.int 0, .int 2]) (rest := []) ⟨hx, hb, hml, hown, hts⟩ (kX16_refuse_3 l dC dI g H.size h0 v1 v2 v3 (.ref (g 34)) v4 v5 v6 v7 ) (cwV 2 hts (ns_gp (List.forall_mem_cons.mpr ⟨wm236, (List.forall_mem_cons.mpr ⟨wm237, (List.forall_mem_cons.mpr ⟨wm238, (List.forall_mem_cons.mpr ⟨wm192, (fun _ h9 => nomatch h9)⟩)⟩)⟩)⟩) wm235) rfl rfl rfl (by decide +kernel) ⟨Nat.le_of_ble_eq_true rfl, Nat.le_of_ble_eq_true rfl⟩) ⟨fun a U gg mk q => by obtain ⟨q0, q1, qP, qK, qD, qF⟩ := q; exact ⟨q0, q1, qP, va_K.moved (u := U) (U := U.calling gg mk a) (Vm.Alike.refl U.vm) qK, qD, ns_same qF⟩, va_recv hK hP (ci := 23) (q0 := 0) rfl rfl, fun U hU hW => ⟨rfl, by rw [hU], by rw [hU]; exact hPc, va_K.moved hW.alike hKc, hDc.weaken (fun _ _ _ _ => trivial), ns_call hF hS hFc hU hW⟩⟩ rfl rfl hl.1 rfl (lv_room (Nat.le_of_ble_eq_true rfl)) dX16_say_159 ⟨Nat.le_of_ble_eq_true rfl, Nat.le_of_ble_eq_true rfl⟩) hS (fun q _ h => hFc q h) hFc (fun r9 u t H1 locs ht hvm hw hB hz1 hk1 hS => ?_)
    obtain rfl := hw.symm
    obtain ⟨hP1, hK1, hD1⟩ := hB
    rw [ht] at hP1
    have hK1 := va_K.moved hvm.symm hK1
    obtain ⟨hP, hD⟩ := va_join (wr := [(q1, .inl (cyq1, 6, .inl (upd (upd (upd (upd (upd (upd (fun _ => 0) 0 x0) 1 x1) 2 x2) 3 x3) 4 x4) 5 x5)))]) (w1 := [(h0, .inr (23, [.int 0, v1, v2, v3, .ref (g 34), v4, v5, v6, v7]))]) hP hD [0] [1] rfl rfl (by decide) (by decide) hk1 hFc hP1 hD1
    have hK := (hK.sub (tys' := [(cyq1, .int)]) [0] rfl).app hK1
    generalize H1 = H at hP hS ⊢
    have hP : va_P (dC, dI) vwCl [(q1, .inl (cyq1, 6, .inl (upd (upd (upd (upd (upd (upd (fun _ => 0) 0 x0) 1 x1) 2 x2) 3 x3) 4 x4) 5 x5))), (h0, .inr (23, [.int 0, v1, v2, v3, .ref (g 34), v4, v5, v6, v7]))] H := hP
    have hD : va_D A [(q1, .inl (cyq1, 6, .inl (upd (upd (upd (upd (upd (upd (fun _ => 0) 0 x0) 1 x1) 2 x2) 3 x3) 4 x4) 5 x5))), (h0, .inr (23, [.int 0, v1, v2, v3, .ref (g 34), v4, v5, v6, v7]))] := hD
    have hK : va_K (dC, dI) vwCl [(cyq1, .int)] s := hK
    refine W.widen (k := 1) (n := 6) (Nat.le_of_ble_eq_true rfl) (Nat.le_of_ble_eq_true rfl) ?_
    refine lv_if_eq (tgt := 167) hx hb dX16_say_162 (by decide) (fun c1004 => ?_) (fun c1004 => absurd (by decide) c1004)
    refine lv_iinc (v := 1) (lv' := [(12, .int 1), (9, .ref (g 34)), (13, .int x0), (11, .int 6), (10, .ref q1), (0, .ref h0)]) hx hb dX16_say_167 hl (k := 2) rfl (by decide) (by decide) rfl (fun ls hl => ?_)
    refine lv_goto (tgt := 119) hx hb dX16_say_170 (by decide) ?_
    have hP := hP.sub (ws' := [(h0, .inr (23, [.int 0, v1, v2, v3, .ref (g 34), v4, v5, v6, v7])), (q1, .inl (cyq1, 6, .inl (upd (upd (upd (upd (upd (upd (fun _ => 0) 0 x0) 1 x1) 2 x2) 3 x3) 4 x4) 5 x5)))]) [1, 0] rfl
    have hD := hD.sub (ws' := [(h0, .inr (23, [.int 0, v1, v2, v3, .ref (g 34), v4, v5, v6, v7])), (q1, .inl (cyq1, 6, .inl (upd (upd (upd (upd (upd (upd (fun _ => 0) 0 x0) 1 x1) 2 x2) 3 x3) 4 x4) 5 x5)))]) [1, 0] (by decide) rfl
    have hK := hK.sub (tys' := [(cyq1, .int)]) [0] rfl
    have hl := lv_sub hl (l' := [(12, .int 1), (11, .int 6), (10, .ref q1), (9, .ref (g 34)), (0, .ref h0)]) [0, 3, 4, 1, 5] rfl
    refine W.widen (k := 7) (n := 46) (Nat.le_of_ble_eq_true rfl) (Nat.le_of_ble_eq_true rfl) ?_
    have hE2 : ns_len E9 x0 = 0 := by rw [hE]; exact ns_lenA x0 0 (by omega)
    exact ns_say_1_0 hE2 ex0 ex1 ex2 ex3 ex4 ex5 hx hb hml hown hts hA hF hK hP hD hS hl k09 k19 k29 k39 k49 k59 k69
  · have _h9 := 0
    refine lv_aload hx hb dX16_say_133 (lv_at hl 4 rfl) ?_
    refine lv_iload hx hb dX16_say_135 (lv_at hl 0 rfl) ?_
    have hPc := hP.sub (ws' := []) [] rfl
    have hDc := hD.sub (ws' := []) [] (by decide) rfl
    have hKc := hK.sub (tys' := []) [] rfl
    have hFc := va_free (wc := []) hD hS hA [] rfl
    refine va_callr (va_runS (As := [.ref (g 34), .int x0]) (rest := []) ⟨hx, hb, hml, hown, hts⟩ (kX16_said_2 l dC dI g H.size x0 ⟨by omega, by omega⟩) (va_cwS 2 hts (ns_gp (List.forall_mem_cons.mpr ⟨wm655, (List.forall_mem_cons.mpr ⟨wm656, (List.forall_mem_cons.mpr ⟨wm192, (fun _ h9 => nomatch h9)⟩)⟩)⟩) wm604) rfl rfl rfl (by decide +kernel) ⟨Nat.le_of_ble_eq_true rfl, Nat.le_of_ble_eq_true rfl⟩) ⟨fun a U gg mk q => by obtain ⟨q0, q1, qP, qK, qD, qF⟩ := q; exact ⟨q0, q1, qP, va_K.moved (u := U) (U := U.calling gg mk a) (Vm.Alike.refl U.vm) qK, qD, ns_same qF⟩, fun U hU hW => ⟨rfl, by rw [hU], by rw [hU]; exact hPc, va_K.moved hW.alike hKc, hDc.weaken (fun _ _ _ _ => trivial), ns_call hF hS hFc hU hW⟩⟩ rfl rfl hl.1 rfl (lv_room (Nat.le_of_ble_eq_true rfl)) dX16_say_137 ⟨Nat.le_of_ble_eq_true rfl, Nat.le_of_ble_eq_true rfl⟩) hS (fun q _ h => hFc q h) hFc (fun u r9 t H1 locs ht hvm hw hB hz1 hk1 hS => ?_)
    obtain ⟨q1005, q1006, cy1007, q1008, q1009, cy1010, hr9, hP1, hK1, hD1⟩ := hB
    obtain rfl := hr9.symm
    rw [ht] at hP1
    have hK1 := va_K.moved hvm.symm hK1
    obtain ⟨hP, hD⟩ := va_join (wr := [(h0, .inr (23, [.int 0, v1, v2, v3, .ref (g 34), v4, v5, v6, v7])), (q1, .inl (cyq1, 6, .inl (upd (upd (upd (upd (upd (upd (fun _ => 0) 0 x0) 1 x1) 2 x2) 3 x3) 4 x4) 5 x5)))]) (w1 := [(q1008, .inr (0, [.ref q1009, .int 0, .int 0, .int 0])), (q1005, .inr (1, [.ref q1006, .int 0, .int 0, .int 1])), (q1006, .inl (cy1007, 16, .inl (upd ((fun _ => 0)) 0 (vp_nar .byte (ns_ch x0).toInt8.toInt32)))), (q1009, .inl (cy1010, 1, .inl (va_cpy ((upd ((fun _ => 0)) 0 (vp_nar .byte (ns_ch x0).toInt8.toInt32))) (fun _ => 0) 0 0 1)))]) hP hD [] [0, 1] rfl rfl (by decide) (by decide) hk1 hFc hP1 hD1
    have hK := (hK.sub (tys' := [(cyq1, .int)]) [0] rfl).app hK1
    generalize H1 = H at hP hS ⊢
    have hP : va_P (dC, dI) vwCl [(h0, .inr (23, [.int 0, v1, v2, v3, .ref (g 34), v4, v5, v6, v7])), (q1, .inl (cyq1, 6, .inl (upd (upd (upd (upd (upd (upd (fun _ => 0) 0 x0) 1 x1) 2 x2) 3 x3) 4 x4) 5 x5))), (q1008, .inr (0, [.ref q1009, .int 0, .int 0, .int 0])), (q1005, .inr (1, [.ref q1006, .int 0, .int 0, .int 1])), (q1006, .inl (cy1007, 16, .inl (upd ((fun _ => 0)) 0 (vp_nar .byte (ns_ch x0).toInt8.toInt32)))), (q1009, .inl (cy1010, 1, .inl (va_cpy ((upd ((fun _ => 0)) 0 (vp_nar .byte (ns_ch x0).toInt8.toInt32))) (fun _ => 0) 0 0 1)))] H := hP
    have hD : va_D A [(h0, .inr (23, [.int 0, v1, v2, v3, .ref (g 34), v4, v5, v6, v7])), (q1, .inl (cyq1, 6, .inl (upd (upd (upd (upd (upd (upd (fun _ => 0) 0 x0) 1 x1) 2 x2) 3 x3) 4 x4) 5 x5))), (q1008, .inr (0, [.ref q1009, .int 0, .int 0, .int 0])), (q1005, .inr (1, [.ref q1006, .int 0, .int 0, .int 1])), (q1006, .inl (cy1007, 16, .inl (upd ((fun _ => 0)) 0 (vp_nar .byte (ns_ch x0).toInt8.toInt32)))), (q1009, .inl (cy1010, 1, .inl (va_cpy ((upd ((fun _ => 0)) 0 (vp_nar .byte (ns_ch x0).toInt8.toInt32))) (fun _ => 0) 0 0 1)))] := hD
    have hK : va_K (dC, dI) vwCl [(cyq1, .int), (cy1007, .byte), (cy1010, .byte)] s := hK
    refine W.widen (k := 5) (n := 31) (Nat.le_of_ble_eq_true rfl) (Nat.le_of_ble_eq_true rfl) ?_
    refine lv_astore (lv' := [(9, .ref q1008), (13, .int x0), (12, .int 0), (11, .int 6), (10, .ref q1), (0, .ref h0)]) hx hb dX16_say_140 hl (by decide) rfl (fun ls hl => ?_)
    refine lv_aload_n hx hb dX16_say_142 rfl (lv_at hl 5 rfl) ?_
    refine lv_aload hx hb dX16_say_143 (lv_at hl 0 rfl) ?_
    have hPc := hP.sub (ws' := [(q1008, .inr (0, [.ref q1009, .int 0, .int 0, .int 0])), (q1009, .inl (cy1010, 1, .inl (va_cpy ((upd ((fun _ => 0)) 0 (vp_nar .byte (ns_ch x0).toInt8.toInt32))) (fun _ => 0) 0 0 1)))]) [2, 5] rfl
    have hDc := hD.sub (ws' := [(q1008, .inr (0, [.ref q1009, .int 0, .int 0, .int 0])), (q1009, .inl (cy1010, 1, .inl (va_cpy ((upd ((fun _ => 0)) 0 (vp_nar .byte (ns_ch x0).toInt8.toInt32))) (fun _ => 0) 0 0 1)))]) [2, 5] (by decide) rfl
    have hKc := hK.sub (tys' := [(cy1010, .byte)]) [2] rfl
    have hFc := va_free (wc := [(q1008, .inr (0, [.ref q1009, .int 0, .int 0, .int 0])), (q1009, .inl (cy1010, 1, .inl (va_cpy ((upd ((fun _ => 0)) 0 (vp_nar .byte (ns_ch x0).toInt8.toInt32))) (fun _ => 0) 0 0 1)))]) hD hS hA [2, 5] rfl
    refine va_calli (va_runV (As := []) (rest := [.ref h0]) ⟨hx, hb, hml, hown, hts⟩ (kJ0_length_8abf5_3 l dC dI g H.size q1008 q1009 (.int 0) (.int 0) cy1010 (va_cpy ((upd ((fun _ => 0)) 0 (vp_nar .byte (ns_ch x0).toInt8.toInt32))) (fun _ => 0) 0 0 1) (sb_fitC (sb_fitU sb_fit0 (pk_fb _)) sb_fit0) ) (cwV 0 hts (ns_gp (List.forall_mem_cons.mpr ⟨wm646, (List.forall_mem_cons.mpr ⟨wm595, (List.forall_mem_cons.mpr ⟨wm596, (List.forall_mem_cons.mpr ⟨wm316, (fun _ h9 => nomatch h9)⟩)⟩)⟩)⟩) wm574) rfl rfl rfl (by decide +kernel) ⟨Nat.le_of_ble_eq_true rfl, Nat.le_of_ble_eq_true rfl⟩) ⟨fun a U gg mk q => by obtain ⟨q0, q1, qP, qK, qD, qF⟩ := q; exact ⟨q0, q1, qP, va_K.moved (u := U) (U := U.calling gg mk a) (Vm.Alike.refl U.vm) qK, qD, ns_same qF⟩, va_recv hK hP (ci := 0) (q0 := 2) rfl rfl, fun U hU hW => ⟨rfl, by rw [hU], by rw [hU]; exact hPc, va_K.moved hW.alike hKc, hDc.weaken (fun _ _ _ _ => trivial), ns_call hF hS hFc hU hW⟩⟩ rfl rfl hl.1 rfl (lv_room (Nat.le_of_ble_eq_true rfl)) dX16_say_145 ⟨Nat.le_of_ble_eq_true rfl, Nat.le_of_ble_eq_true rfl⟩) hS (fun q _ h => hFc q h) hFc (fun r9 u t H1 locs ht hvm hw hB hz1 hk1 hS => ?_)
    obtain rfl := hw.symm
    obtain ⟨hP1, hK1, hD1⟩ := hB
    rw [ht] at hP1
    have hK1 := va_K.moved hvm.symm hK1
    obtain ⟨hP, hD⟩ := va_join (wr := [(h0, .inr (23, [.int 0, v1, v2, v3, .ref (g 34), v4, v5, v6, v7])), (q1, .inl (cyq1, 6, .inl (upd (upd (upd (upd (upd (upd (fun _ => 0) 0 x0) 1 x1) 2 x2) 3 x3) 4 x4) 5 x5))), (q1005, .inr (1, [.ref q1006, .int 0, .int 0, .int 1])), (q1006, .inl (cy1007, 16, .inl (upd ((fun _ => 0)) 0 (vp_nar .byte (ns_ch x0).toInt8.toInt32))))]) (w1 := [(q1009, .inl (cy1010, 1, .inl (va_cpy ((upd ((fun _ => 0)) 0 (vp_nar .byte (ns_ch x0).toInt8.toInt32))) (fun _ => 0) 0 0 1))), (q1008, .inr (0, [.ref q1009, .int 0, .int 0, .int 0]))]) hP hD [2, 5] [0, 1, 3, 4] rfl rfl (by decide) (by decide) hk1 hFc hP1 hD1
    have hK := (hK.sub (tys' := [(cyq1, .int), (cy1007, .byte)]) [0, 1] rfl).app hK1
    generalize H1 = H at hP hS ⊢
    have hP : va_P (dC, dI) vwCl [(h0, .inr (23, [.int 0, v1, v2, v3, .ref (g 34), v4, v5, v6, v7])), (q1, .inl (cyq1, 6, .inl (upd (upd (upd (upd (upd (upd (fun _ => 0) 0 x0) 1 x1) 2 x2) 3 x3) 4 x4) 5 x5))), (q1005, .inr (1, [.ref q1006, .int 0, .int 0, .int 1])), (q1006, .inl (cy1007, 16, .inl (upd ((fun _ => 0)) 0 (vp_nar .byte (ns_ch x0).toInt8.toInt32)))), (q1009, .inl (cy1010, 1, .inl (va_cpy ((upd ((fun _ => 0)) 0 (vp_nar .byte (ns_ch x0).toInt8.toInt32))) (fun _ => 0) 0 0 1))), (q1008, .inr (0, [.ref q1009, .int 0, .int 0, .int 0]))] H := hP
    have hD : va_D A [(h0, .inr (23, [.int 0, v1, v2, v3, .ref (g 34), v4, v5, v6, v7])), (q1, .inl (cyq1, 6, .inl (upd (upd (upd (upd (upd (upd (fun _ => 0) 0 x0) 1 x1) 2 x2) 3 x3) 4 x4) 5 x5))), (q1005, .inr (1, [.ref q1006, .int 0, .int 0, .int 1])), (q1006, .inl (cy1007, 16, .inl (upd ((fun _ => 0)) 0 (vp_nar .byte (ns_ch x0).toInt8.toInt32)))), (q1009, .inl (cy1010, 1, .inl (va_cpy ((upd ((fun _ => 0)) 0 (vp_nar .byte (ns_ch x0).toInt8.toInt32))) (fun _ => 0) 0 0 1))), (q1008, .inr (0, [.ref q1009, .int 0, .int 0, .int 0]))] := hD
    have hK : va_K (dC, dI) vwCl [(cyq1, .int), (cy1007, .byte), (cy1010, .byte)] s := hK
    refine W.widen (k := 5) (n := 31) (Nat.le_of_ble_eq_true rfl) (Nat.le_of_ble_eq_true rfl) ?_
    refine lv_bipush (v := 60) hx hb dX16_say_148 (by decide) ?_
    refine lv_icmp_le (tgt := 157) hx hb dX16_say_150 (by decide) (fun c1011 => ?_) (fun c1011 => absurd (by decide) c1011)
    refine lv_iconst (v := 0) hx hb dX16_say_157 (by decide) ?_
    refine lv_iconst (v := 2) hx hb dX16_say_158 (by decide) ?_
    have hPc := hP.sub (ws' := [(h0, .inr (23, [.int 0, v1, v2, v3, .ref (g 34), v4, v5, v6, v7]))]) [0] rfl
    have hDc := hD.sub (ws' := [(h0, .inr (23, [.int 0, v1, v2, v3, .ref (g 34), v4, v5, v6, v7]))]) [0] (by decide) rfl
    have hKc := hK.sub (tys' := []) [] rfl
    have hFc := va_free (wc := [(h0, .inr (23, [.int 0, v1, v2, v3, .ref (g 34), v4, v5, v6, v7]))]) hD hS hA [0] rfl
    refine va_calli (va_runV (As := [.int 0, .int 2]) (rest := []) ⟨hx, hb, hml, hown, hts⟩ (kX16_refuse_3 l dC dI g H.size h0 v1 v2 v3 (.ref (g 34)) v4 v5 v6 v7 ) (cwV 2 hts (ns_gp (List.forall_mem_cons.mpr ⟨wm236, (List.forall_mem_cons.mpr ⟨wm237, (List.forall_mem_cons.mpr ⟨wm238, (List.forall_mem_cons.mpr ⟨wm192, (fun _ h9 => nomatch h9)⟩)⟩)⟩)⟩) wm235) rfl rfl rfl (by decide +kernel) ⟨Nat.le_of_ble_eq_true rfl, Nat.le_of_ble_eq_true rfl⟩) ⟨fun a U gg mk q => by obtain ⟨q0, q1, qP, qK, qD, qF⟩ := q; exact ⟨q0, q1, qP, va_K.moved (u := U) (U := U.calling gg mk a) (Vm.Alike.refl U.vm) qK, qD, ns_same qF⟩, va_recv hK hP (ci := 23) (q0 := 0) rfl rfl, fun U hU hW => ⟨rfl, by rw [hU], by rw [hU]; exact hPc, va_K.moved hW.alike hKc, hDc.weaken (fun _ _ _ _ => trivial), ns_call hF hS hFc hU hW⟩⟩ rfl rfl hl.1 rfl (lv_room (Nat.le_of_ble_eq_true rfl)) dX16_say_159 ⟨Nat.le_of_ble_eq_true rfl, Nat.le_of_ble_eq_true rfl⟩) hS (fun q _ h => hFc q h) hFc (fun r9 u t H1 locs ht hvm hw hB hz1 hk1 hS => ?_)
    obtain rfl := hw.symm
    obtain ⟨hP1, hK1, hD1⟩ := hB
    rw [ht] at hP1
    have hK1 := va_K.moved hvm.symm hK1
    obtain ⟨hP, hD⟩ := va_join (wr := [(q1, .inl (cyq1, 6, .inl (upd (upd (upd (upd (upd (upd (fun _ => 0) 0 x0) 1 x1) 2 x2) 3 x3) 4 x4) 5 x5))), (q1005, .inr (1, [.ref q1006, .int 0, .int 0, .int 1])), (q1006, .inl (cy1007, 16, .inl (upd ((fun _ => 0)) 0 (vp_nar .byte (ns_ch x0).toInt8.toInt32)))), (q1009, .inl (cy1010, 1, .inl (va_cpy ((upd ((fun _ => 0)) 0 (vp_nar .byte (ns_ch x0).toInt8.toInt32))) (fun _ => 0) 0 0 1))), (q1008, .inr (0, [.ref q1009, .int 0, .int 0, .int 0]))]) (w1 := [(h0, .inr (23, [.int 0, v1, v2, v3, .ref (g 34), v4, v5, v6, v7]))]) hP hD [0] [1, 2, 3, 4, 5] rfl rfl (by decide) (by decide) hk1 hFc hP1 hD1
    have hK := (hK.sub (tys' := [(cyq1, .int), (cy1007, .byte), (cy1010, .byte)]) [0, 1, 2] rfl).app hK1
    generalize H1 = H at hP hS ⊢
    have hP : va_P (dC, dI) vwCl [(q1, .inl (cyq1, 6, .inl (upd (upd (upd (upd (upd (upd (fun _ => 0) 0 x0) 1 x1) 2 x2) 3 x3) 4 x4) 5 x5))), (q1005, .inr (1, [.ref q1006, .int 0, .int 0, .int 1])), (q1006, .inl (cy1007, 16, .inl (upd ((fun _ => 0)) 0 (vp_nar .byte (ns_ch x0).toInt8.toInt32)))), (q1009, .inl (cy1010, 1, .inl (va_cpy ((upd ((fun _ => 0)) 0 (vp_nar .byte (ns_ch x0).toInt8.toInt32))) (fun _ => 0) 0 0 1))), (q1008, .inr (0, [.ref q1009, .int 0, .int 0, .int 0])), (h0, .inr (23, [.int 0, v1, v2, v3, .ref (g 34), v4, v5, v6, v7]))] H := hP
    have hD : va_D A [(q1, .inl (cyq1, 6, .inl (upd (upd (upd (upd (upd (upd (fun _ => 0) 0 x0) 1 x1) 2 x2) 3 x3) 4 x4) 5 x5))), (q1005, .inr (1, [.ref q1006, .int 0, .int 0, .int 1])), (q1006, .inl (cy1007, 16, .inl (upd ((fun _ => 0)) 0 (vp_nar .byte (ns_ch x0).toInt8.toInt32)))), (q1009, .inl (cy1010, 1, .inl (va_cpy ((upd ((fun _ => 0)) 0 (vp_nar .byte (ns_ch x0).toInt8.toInt32))) (fun _ => 0) 0 0 1))), (q1008, .inr (0, [.ref q1009, .int 0, .int 0, .int 0])), (h0, .inr (23, [.int 0, v1, v2, v3, .ref (g 34), v4, v5, v6, v7]))] := hD
    have hK : va_K (dC, dI) vwCl [(cyq1, .int), (cy1007, .byte), (cy1010, .byte)] s := hK
    refine W.widen (k := 5) (n := 31) (Nat.le_of_ble_eq_true rfl) (Nat.le_of_ble_eq_true rfl) ?_
    refine lv_if_eq (tgt := 167) hx hb dX16_say_162 (by decide) (fun c1012 => ?_) (fun c1012 => absurd (by decide) c1012)
    refine lv_iinc (v := 1) (lv' := [(12, .int 1), (9, .ref q1008), (13, .int x0), (11, .int 6), (10, .ref q1), (0, .ref h0)]) hx hb dX16_say_167 hl (k := 2) rfl (by decide) (by decide) rfl (fun ls hl => ?_)
    refine lv_goto (tgt := 119) hx hb dX16_say_170 (by decide) ?_
    have hP := hP.sub (ws' := [(h0, .inr (23, [.int 0, v1, v2, v3, .ref (g 34), v4, v5, v6, v7])), (q1, .inl (cyq1, 6, .inl (upd (upd (upd (upd (upd (upd (fun _ => 0) 0 x0) 1 x1) 2 x2) 3 x3) 4 x4) 5 x5))), (q1008, .inr (0, [.ref q1009, .int 0, .int 0, .int 0])), (q1009, .inl (cy1010, 1, .inl (va_cpy ((upd ((fun _ => 0)) 0 (vp_nar .byte (ns_ch x0).toInt8.toInt32))) (fun _ => 0) 0 0 1)))]) [5, 0, 4, 3] rfl
    have hD := hD.sub (ws' := [(h0, .inr (23, [.int 0, v1, v2, v3, .ref (g 34), v4, v5, v6, v7])), (q1, .inl (cyq1, 6, .inl (upd (upd (upd (upd (upd (upd (fun _ => 0) 0 x0) 1 x1) 2 x2) 3 x3) 4 x4) 5 x5))), (q1008, .inr (0, [.ref q1009, .int 0, .int 0, .int 0])), (q1009, .inl (cy1010, 1, .inl (va_cpy ((upd ((fun _ => 0)) 0 (vp_nar .byte (ns_ch x0).toInt8.toInt32))) (fun _ => 0) 0 0 1)))]) [5, 0, 4, 3] (by decide) rfl
    have hK := hK.sub (tys' := [(cyq1, .int), (cy1010, .byte)]) [0, 2] rfl
    have hl := lv_sub hl (l' := [(12, .int 1), (11, .int 6), (10, .ref q1), (9, .ref q1008), (0, .ref h0)]) [0, 3, 4, 1, 5] rfl
    refine W.widen (k := 7) (n := 46) (Nat.le_of_ble_eq_true rfl) (Nat.le_of_ble_eq_true rfl) ?_
    have hE2 : ns_len E9 x0 = 1 := by rw [hE]; exact (ns_lenB x0 0 (by omega) (by omega)).trans (by decide)
    exact ns_say_1_1 (sb_fitC (sb_fitU sb_fit0 (pk_fb _)) sb_fit0) hE2 ex0 ex1 ex2 ex3 ex4 ex5 hx hb hml hown hts hA hF hK hP hD hS hl k09 k19 k29 k39 k49 k59 k69
  · have _h9 := 0
    refine lv_aload hx hb dX16_say_133 (lv_at hl 4 rfl) ?_
    refine lv_iload hx hb dX16_say_135 (lv_at hl 0 rfl) ?_
    have hPc := hP.sub (ws' := []) [] rfl
    have hDc := hD.sub (ws' := []) [] (by decide) rfl
    have hKc := hK.sub (tys' := []) [] rfl
    have hFc := va_free (wc := []) hD hS hA [] rfl
    refine va_callr (va_runS (As := [.ref (g 34), .int x0]) (rest := []) ⟨hx, hb, hml, hown, hts⟩ (kX16_said_3 l dC dI g H.size x0 ⟨by omega, by omega⟩) (va_cwS 2 hts (ns_gp (List.forall_mem_cons.mpr ⟨wm655, (List.forall_mem_cons.mpr ⟨wm656, (List.forall_mem_cons.mpr ⟨wm192, (fun _ h9 => nomatch h9)⟩)⟩)⟩) wm604) rfl rfl rfl (by decide +kernel) ⟨Nat.le_of_ble_eq_true rfl, Nat.le_of_ble_eq_true rfl⟩) ⟨fun a U gg mk q => by obtain ⟨q0, q1, qP, qK, qD, qF⟩ := q; exact ⟨q0, q1, qP, va_K.moved (u := U) (U := U.calling gg mk a) (Vm.Alike.refl U.vm) qK, qD, ns_same qF⟩, fun U hU hW => ⟨rfl, by rw [hU], by rw [hU]; exact hPc, va_K.moved hW.alike hKc, hDc.weaken (fun _ _ _ _ => trivial), ns_call hF hS hFc hU hW⟩⟩ rfl rfl hl.1 rfl (lv_room (Nat.le_of_ble_eq_true rfl)) dX16_say_137 ⟨Nat.le_of_ble_eq_true rfl, Nat.le_of_ble_eq_true rfl⟩) hS (fun q _ h => hFc q h) hFc (fun u r9 t H1 locs ht hvm hw hB hz1 hk1 hS => ?_)
    obtain ⟨hr9, hP1, hK1, hD1⟩ := hB
    obtain rfl := hr9.symm
    rw [ht] at hP1
    have hK1 := va_K.moved hvm.symm hK1
    obtain ⟨hP, hD⟩ := va_join (wr := [(h0, .inr (23, [.int 0, v1, v2, v3, .ref (g 34), v4, v5, v6, v7])), (q1, .inl (cyq1, 6, .inl (upd (upd (upd (upd (upd (upd (fun _ => 0) 0 x0) 1 x1) 2 x2) 3 x3) 4 x4) 5 x5)))]) (w1 := []) hP hD [] [0, 1] rfl rfl (by decide) (by decide) hk1 hFc hP1 hD1
    have hK := (hK.sub (tys' := [(cyq1, .int)]) [0] rfl).app hK1
    generalize H1 = H at hP hS ⊢
    have hP : va_P (dC, dI) vwCl [(h0, .inr (23, [.int 0, v1, v2, v3, .ref (g 34), v4, v5, v6, v7])), (q1, .inl (cyq1, 6, .inl (upd (upd (upd (upd (upd (upd (fun _ => 0) 0 x0) 1 x1) 2 x2) 3 x3) 4 x4) 5 x5)))] H := hP
    have hD : va_D A [(h0, .inr (23, [.int 0, v1, v2, v3, .ref (g 34), v4, v5, v6, v7])), (q1, .inl (cyq1, 6, .inl (upd (upd (upd (upd (upd (upd (fun _ => 0) 0 x0) 1 x1) 2 x2) 3 x3) 4 x4) 5 x5)))] := hD
    have hK : va_K (dC, dI) vwCl [(cyq1, .int)] s := hK
    refine W.widen (k := 1) (n := 6) (Nat.le_of_ble_eq_true rfl) (Nat.le_of_ble_eq_true rfl) ?_
    refine lv_astore (lv' := [(9, .ref (g 34)), (13, .int x0), (12, .int 0), (11, .int 6), (10, .ref q1), (0, .ref h0)]) hx hb dX16_say_140 hl (by decide) rfl (fun ls hl => ?_)
    refine lv_aload_n hx hb dX16_say_142 rfl (lv_at hl 5 rfl) ?_
    refine lv_aload hx hb dX16_say_143 (lv_at hl 0 rfl) ?_
    have hPc := hP.sub (ws' := []) [] rfl
    have hDc := hD.sub (ws' := []) [] (by decide) rfl
    have hKc := hK.sub (tys' := []) [] rfl
    have hFc := va_free (wc := []) hD hS hA [] rfl
    refine va_calli (va_runV (As := []) (rest := [.ref h0]) ⟨hx, hb, hml, hown, hts⟩ (kJ0_length_8abf5_2 l dC dI g H.size  ) (cwV 0 hts (ns_gp (List.forall_mem_cons.mpr ⟨wm646, (List.forall_mem_cons.mpr ⟨wm595, (List.forall_mem_cons.mpr ⟨wm596, (List.forall_mem_cons.mpr ⟨wm316, (fun _ h9 => nomatch h9)⟩)⟩)⟩)⟩) wm574) rfl rfl rfl (by decide +kernel) ⟨Nat.le_of_ble_eq_true rfl, Nat.le_of_ble_eq_true rfl⟩) ⟨fun a U gg mk q => by obtain ⟨q0, q1, qP, qK, qD, qF⟩ := q; exact ⟨q0, q1, qP, va_K.moved (u := U) (U := U.calling gg mk a) (Vm.Alike.refl U.vm) qK, qD, ns_same qF⟩, va_Orecv (ns_f38 hF) hS, fun U hU hW => ⟨rfl, by rw [hU], by rw [hU]; exact hPc, va_K.moved hW.alike hKc, hDc.weaken (fun _ _ _ _ => trivial), ns_call hF hS hFc hU hW⟩⟩ rfl rfl hl.1 rfl (lv_room (Nat.le_of_ble_eq_true rfl)) dX16_say_145 ⟨Nat.le_of_ble_eq_true rfl, Nat.le_of_ble_eq_true rfl⟩) hS (fun q _ h => hFc q h) hFc (fun r9 u t H1 locs ht hvm hw hB hz1 hk1 hS => ?_)
    obtain rfl := hw.symm
    obtain ⟨hP1, hK1, hD1⟩ := hB
    rw [ht] at hP1
    have hK1 := va_K.moved hvm.symm hK1
    obtain ⟨hP, hD⟩ := va_join (wr := [(h0, .inr (23, [.int 0, v1, v2, v3, .ref (g 34), v4, v5, v6, v7])), (q1, .inl (cyq1, 6, .inl (upd (upd (upd (upd (upd (upd (fun _ => 0) 0 x0) 1 x1) 2 x2) 3 x3) 4 x4) 5 x5)))]) (w1 := []) hP hD [] [0, 1] rfl rfl (by decide) (by decide) hk1 hFc hP1 hD1
    have hK := (hK.sub (tys' := [(cyq1, .int)]) [0] rfl).app hK1
    generalize H1 = H at hP hS ⊢
    have hP : va_P (dC, dI) vwCl [(h0, .inr (23, [.int 0, v1, v2, v3, .ref (g 34), v4, v5, v6, v7])), (q1, .inl (cyq1, 6, .inl (upd (upd (upd (upd (upd (upd (fun _ => 0) 0 x0) 1 x1) 2 x2) 3 x3) 4 x4) 5 x5)))] H := hP
    have hD : va_D A [(h0, .inr (23, [.int 0, v1, v2, v3, .ref (g 34), v4, v5, v6, v7])), (q1, .inl (cyq1, 6, .inl (upd (upd (upd (upd (upd (upd (fun _ => 0) 0 x0) 1 x1) 2 x2) 3 x3) 4 x4) 5 x5)))] := hD
    have hK : va_K (dC, dI) vwCl [(cyq1, .int)] s := hK
    refine W.widen (k := 1) (n := 6) (Nat.le_of_ble_eq_true rfl) (Nat.le_of_ble_eq_true rfl) ?_
    refine lv_bipush (v := 60) hx hb dX16_say_148 (by decide) ?_
    refine lv_icmp_le (tgt := 157) hx hb dX16_say_150 (by decide) (fun c1013 => ?_) (fun c1013 => absurd (by decide) c1013)
    refine lv_iconst (v := 0) hx hb dX16_say_157 (by decide) ?_
    refine lv_iconst (v := 2) hx hb dX16_say_158 (by decide) ?_
    have hPc := hP.sub (ws' := [(h0, .inr (23, [.int 0, v1, v2, v3, .ref (g 34), v4, v5, v6, v7]))]) [0] rfl
    have hDc := hD.sub (ws' := [(h0, .inr (23, [.int 0, v1, v2, v3, .ref (g 34), v4, v5, v6, v7]))]) [0] (by decide) rfl
    have hKc := hK.sub (tys' := []) [] rfl
    have hFc := va_free (wc := [(h0, .inr (23, [.int 0, v1, v2, v3, .ref (g 34), v4, v5, v6, v7]))]) hD hS hA [0] rfl
    refine va_calli (va_runV (As := [.int 0, .int 2]) (rest := []) ⟨hx, hb, hml, hown, hts⟩ (kX16_refuse_3 l dC dI g H.size h0 v1 v2 v3 (.ref (g 34)) v4 v5 v6 v7 ) (cwV 2 hts (ns_gp (List.forall_mem_cons.mpr ⟨wm236, (List.forall_mem_cons.mpr ⟨wm237, (List.forall_mem_cons.mpr ⟨wm238, (List.forall_mem_cons.mpr ⟨wm192, (fun _ h9 => nomatch h9)⟩)⟩)⟩)⟩) wm235) rfl rfl rfl (by decide +kernel) ⟨Nat.le_of_ble_eq_true rfl, Nat.le_of_ble_eq_true rfl⟩) ⟨fun a U gg mk q => by obtain ⟨q0, q1, qP, qK, qD, qF⟩ := q; exact ⟨q0, q1, qP, va_K.moved (u := U) (U := U.calling gg mk a) (Vm.Alike.refl U.vm) qK, qD, ns_same qF⟩, va_recv hK hP (ci := 23) (q0 := 0) rfl rfl, fun U hU hW => ⟨rfl, by rw [hU], by rw [hU]; exact hPc, va_K.moved hW.alike hKc, hDc.weaken (fun _ _ _ _ => trivial), ns_call hF hS hFc hU hW⟩⟩ rfl rfl hl.1 rfl (lv_room (Nat.le_of_ble_eq_true rfl)) dX16_say_159 ⟨Nat.le_of_ble_eq_true rfl, Nat.le_of_ble_eq_true rfl⟩) hS (fun q _ h => hFc q h) hFc (fun r9 u t H1 locs ht hvm hw hB hz1 hk1 hS => ?_)
    obtain rfl := hw.symm
    obtain ⟨hP1, hK1, hD1⟩ := hB
    rw [ht] at hP1
    have hK1 := va_K.moved hvm.symm hK1
    obtain ⟨hP, hD⟩ := va_join (wr := [(q1, .inl (cyq1, 6, .inl (upd (upd (upd (upd (upd (upd (fun _ => 0) 0 x0) 1 x1) 2 x2) 3 x3) 4 x4) 5 x5)))]) (w1 := [(h0, .inr (23, [.int 0, v1, v2, v3, .ref (g 34), v4, v5, v6, v7]))]) hP hD [0] [1] rfl rfl (by decide) (by decide) hk1 hFc hP1 hD1
    have hK := (hK.sub (tys' := [(cyq1, .int)]) [0] rfl).app hK1
    generalize H1 = H at hP hS ⊢
    have hP : va_P (dC, dI) vwCl [(q1, .inl (cyq1, 6, .inl (upd (upd (upd (upd (upd (upd (fun _ => 0) 0 x0) 1 x1) 2 x2) 3 x3) 4 x4) 5 x5))), (h0, .inr (23, [.int 0, v1, v2, v3, .ref (g 34), v4, v5, v6, v7]))] H := hP
    have hD : va_D A [(q1, .inl (cyq1, 6, .inl (upd (upd (upd (upd (upd (upd (fun _ => 0) 0 x0) 1 x1) 2 x2) 3 x3) 4 x4) 5 x5))), (h0, .inr (23, [.int 0, v1, v2, v3, .ref (g 34), v4, v5, v6, v7]))] := hD
    have hK : va_K (dC, dI) vwCl [(cyq1, .int)] s := hK
    refine W.widen (k := 1) (n := 6) (Nat.le_of_ble_eq_true rfl) (Nat.le_of_ble_eq_true rfl) ?_
    refine lv_if_eq (tgt := 167) hx hb dX16_say_162 (by decide) (fun c1014 => ?_) (fun c1014 => absurd (by decide) c1014)
    refine lv_iinc (v := 1) (lv' := [(12, .int 1), (9, .ref (g 34)), (13, .int x0), (11, .int 6), (10, .ref q1), (0, .ref h0)]) hx hb dX16_say_167 hl (k := 2) rfl (by decide) (by decide) rfl (fun ls hl => ?_)
    refine lv_goto (tgt := 119) hx hb dX16_say_170 (by decide) ?_
    have hP := hP.sub (ws' := [(h0, .inr (23, [.int 0, v1, v2, v3, .ref (g 34), v4, v5, v6, v7])), (q1, .inl (cyq1, 6, .inl (upd (upd (upd (upd (upd (upd (fun _ => 0) 0 x0) 1 x1) 2 x2) 3 x3) 4 x4) 5 x5)))]) [1, 0] rfl
    have hD := hD.sub (ws' := [(h0, .inr (23, [.int 0, v1, v2, v3, .ref (g 34), v4, v5, v6, v7])), (q1, .inl (cyq1, 6, .inl (upd (upd (upd (upd (upd (upd (fun _ => 0) 0 x0) 1 x1) 2 x2) 3 x3) 4 x4) 5 x5)))]) [1, 0] (by decide) rfl
    have hK := hK.sub (tys' := [(cyq1, .int)]) [0] rfl
    have hl := lv_sub hl (l' := [(12, .int 1), (11, .int 6), (10, .ref q1), (9, .ref (g 34)), (0, .ref h0)]) [0, 3, 4, 1, 5] rfl
    refine W.widen (k := 7) (n := 46) (Nat.le_of_ble_eq_true rfl) (Nat.le_of_ble_eq_true rfl) ?_
    have hE2 : ns_len E9 x0 = 0 := by rw [hE]; exact ns_lenC0 x0 (by omega)
    exact ns_say_1_0 hE2 ex0 ex1 ex2 ex3 ex4 ex5 hx hb hml hown hts hA hF hK hP hD hS hl k09 k19 k29 k39 k49 k59 k69
  · have _h9 := 0
    refine lv_aload hx hb dX16_say_133 (lv_at hl 4 rfl) ?_
    refine lv_iload hx hb dX16_say_135 (lv_at hl 0 rfl) ?_
    have hPc := hP.sub (ws' := []) [] rfl
    have hDc := hD.sub (ws' := []) [] (by decide) rfl
    have hKc := hK.sub (tys' := []) [] rfl
    have hFc := va_free (wc := []) hD hS hA [] rfl
    refine va_callr (va_runS (As := [.ref (g 34), .int x0]) (rest := []) ⟨hx, hb, hml, hown, hts⟩ (kX16_said_4 l dC dI g H.size x0 ⟨by omega, by omega⟩) (va_cwS 2 hts (ns_gp (List.forall_mem_cons.mpr ⟨wm655, (List.forall_mem_cons.mpr ⟨wm656, (List.forall_mem_cons.mpr ⟨wm192, (fun _ h9 => nomatch h9)⟩)⟩)⟩) wm604) rfl rfl rfl (by decide +kernel) ⟨Nat.le_of_ble_eq_true rfl, Nat.le_of_ble_eq_true rfl⟩) ⟨fun a U gg mk q => by obtain ⟨q0, q1, qP, qK, qD, qF⟩ := q; exact ⟨q0, q1, qP, va_K.moved (u := U) (U := U.calling gg mk a) (Vm.Alike.refl U.vm) qK, qD, ns_same qF⟩, fun U hU hW => ⟨rfl, by rw [hU], by rw [hU]; exact hPc, va_K.moved hW.alike hKc, hDc.weaken (fun _ _ _ _ => trivial), ns_call hF hS hFc hU hW⟩⟩ rfl rfl hl.1 rfl (lv_room (Nat.le_of_ble_eq_true rfl)) dX16_say_137 ⟨Nat.le_of_ble_eq_true rfl, Nat.le_of_ble_eq_true rfl⟩) hS (fun q _ h => hFc q h) hFc (fun u r9 t H1 locs ht hvm hw hB hz1 hk1 hS => ?_)
    obtain ⟨hr9, hP1, hK1, hD1⟩ := hB
    obtain rfl := hr9.symm
    rw [ht] at hP1
    have hK1 := va_K.moved hvm.symm hK1
    obtain ⟨hP, hD⟩ := va_join (wr := [(h0, .inr (23, [.int 0, v1, v2, v3, .ref (g 34), v4, v5, v6, v7])), (q1, .inl (cyq1, 6, .inl (upd (upd (upd (upd (upd (upd (fun _ => 0) 0 x0) 1 x1) 2 x2) 3 x3) 4 x4) 5 x5)))]) (w1 := []) hP hD [] [0, 1] rfl rfl (by decide) (by decide) hk1 hFc hP1 hD1
    have hK := (hK.sub (tys' := [(cyq1, .int)]) [0] rfl).app hK1
    generalize H1 = H at hP hS ⊢
    have hP : va_P (dC, dI) vwCl [(h0, .inr (23, [.int 0, v1, v2, v3, .ref (g 34), v4, v5, v6, v7])), (q1, .inl (cyq1, 6, .inl (upd (upd (upd (upd (upd (upd (fun _ => 0) 0 x0) 1 x1) 2 x2) 3 x3) 4 x4) 5 x5)))] H := hP
    have hD : va_D A [(h0, .inr (23, [.int 0, v1, v2, v3, .ref (g 34), v4, v5, v6, v7])), (q1, .inl (cyq1, 6, .inl (upd (upd (upd (upd (upd (upd (fun _ => 0) 0 x0) 1 x1) 2 x2) 3 x3) 4 x4) 5 x5)))] := hD
    have hK : va_K (dC, dI) vwCl [(cyq1, .int)] s := hK
    refine W.widen (k := 1) (n := 6) (Nat.le_of_ble_eq_true rfl) (Nat.le_of_ble_eq_true rfl) ?_
    refine lv_astore (lv' := [(9, .ref (g 34)), (13, .int x0), (12, .int 0), (11, .int 6), (10, .ref q1), (0, .ref h0)]) hx hb dX16_say_140 hl (by decide) rfl (fun ls hl => ?_)
    refine lv_aload_n hx hb dX16_say_142 rfl (lv_at hl 5 rfl) ?_
    refine lv_aload hx hb dX16_say_143 (lv_at hl 0 rfl) ?_
    have hPc := hP.sub (ws' := []) [] rfl
    have hDc := hD.sub (ws' := []) [] (by decide) rfl
    have hKc := hK.sub (tys' := []) [] rfl
    have hFc := va_free (wc := []) hD hS hA [] rfl
    refine va_calli (va_runV (As := []) (rest := [.ref h0]) ⟨hx, hb, hml, hown, hts⟩ (kJ0_length_8abf5_2 l dC dI g H.size  ) (cwV 0 hts (ns_gp (List.forall_mem_cons.mpr ⟨wm646, (List.forall_mem_cons.mpr ⟨wm595, (List.forall_mem_cons.mpr ⟨wm596, (List.forall_mem_cons.mpr ⟨wm316, (fun _ h9 => nomatch h9)⟩)⟩)⟩)⟩) wm574) rfl rfl rfl (by decide +kernel) ⟨Nat.le_of_ble_eq_true rfl, Nat.le_of_ble_eq_true rfl⟩) ⟨fun a U gg mk q => by obtain ⟨q0, q1, qP, qK, qD, qF⟩ := q; exact ⟨q0, q1, qP, va_K.moved (u := U) (U := U.calling gg mk a) (Vm.Alike.refl U.vm) qK, qD, ns_same qF⟩, va_Orecv (ns_f38 hF) hS, fun U hU hW => ⟨rfl, by rw [hU], by rw [hU]; exact hPc, va_K.moved hW.alike hKc, hDc.weaken (fun _ _ _ _ => trivial), ns_call hF hS hFc hU hW⟩⟩ rfl rfl hl.1 rfl (lv_room (Nat.le_of_ble_eq_true rfl)) dX16_say_145 ⟨Nat.le_of_ble_eq_true rfl, Nat.le_of_ble_eq_true rfl⟩) hS (fun q _ h => hFc q h) hFc (fun r9 u t H1 locs ht hvm hw hB hz1 hk1 hS => ?_)
    obtain rfl := hw.symm
    obtain ⟨hP1, hK1, hD1⟩ := hB
    rw [ht] at hP1
    have hK1 := va_K.moved hvm.symm hK1
    obtain ⟨hP, hD⟩ := va_join (wr := [(h0, .inr (23, [.int 0, v1, v2, v3, .ref (g 34), v4, v5, v6, v7])), (q1, .inl (cyq1, 6, .inl (upd (upd (upd (upd (upd (upd (fun _ => 0) 0 x0) 1 x1) 2 x2) 3 x3) 4 x4) 5 x5)))]) (w1 := []) hP hD [] [0, 1] rfl rfl (by decide) (by decide) hk1 hFc hP1 hD1
    have hK := (hK.sub (tys' := [(cyq1, .int)]) [0] rfl).app hK1
    generalize H1 = H at hP hS ⊢
    have hP : va_P (dC, dI) vwCl [(h0, .inr (23, [.int 0, v1, v2, v3, .ref (g 34), v4, v5, v6, v7])), (q1, .inl (cyq1, 6, .inl (upd (upd (upd (upd (upd (upd (fun _ => 0) 0 x0) 1 x1) 2 x2) 3 x3) 4 x4) 5 x5)))] H := hP
    have hD : va_D A [(h0, .inr (23, [.int 0, v1, v2, v3, .ref (g 34), v4, v5, v6, v7])), (q1, .inl (cyq1, 6, .inl (upd (upd (upd (upd (upd (upd (fun _ => 0) 0 x0) 1 x1) 2 x2) 3 x3) 4 x4) 5 x5)))] := hD
    have hK : va_K (dC, dI) vwCl [(cyq1, .int)] s := hK
    refine W.widen (k := 1) (n := 6) (Nat.le_of_ble_eq_true rfl) (Nat.le_of_ble_eq_true rfl) ?_
    refine lv_bipush (v := 60) hx hb dX16_say_148 (by decide) ?_
    refine lv_icmp_le (tgt := 157) hx hb dX16_say_150 (by decide) (fun c1015 => ?_) (fun c1015 => absurd (by decide) c1015)
    refine lv_iconst (v := 0) hx hb dX16_say_157 (by decide) ?_
    refine lv_iconst (v := 2) hx hb dX16_say_158 (by decide) ?_
    have hPc := hP.sub (ws' := [(h0, .inr (23, [.int 0, v1, v2, v3, .ref (g 34), v4, v5, v6, v7]))]) [0] rfl
    have hDc := hD.sub (ws' := [(h0, .inr (23, [.int 0, v1, v2, v3, .ref (g 34), v4, v5, v6, v7]))]) [0] (by decide) rfl
    have hKc := hK.sub (tys' := []) [] rfl
    have hFc := va_free (wc := [(h0, .inr (23, [.int 0, v1, v2, v3, .ref (g 34), v4, v5, v6, v7]))]) hD hS hA [0] rfl
    refine va_calli (va_runV (As := [.int 0, .int 2]) (rest := []) ⟨hx, hb, hml, hown, hts⟩ (kX16_refuse_3 l dC dI g H.size h0 v1 v2 v3 (.ref (g 34)) v4 v5 v6 v7 ) (cwV 2 hts (ns_gp (List.forall_mem_cons.mpr ⟨wm236, (List.forall_mem_cons.mpr ⟨wm237, (List.forall_mem_cons.mpr ⟨wm238, (List.forall_mem_cons.mpr ⟨wm192, (fun _ h9 => nomatch h9)⟩)⟩)⟩)⟩) wm235) rfl rfl rfl (by decide +kernel) ⟨Nat.le_of_ble_eq_true rfl, Nat.le_of_ble_eq_true rfl⟩) ⟨fun a U gg mk q => by obtain ⟨q0, q1, qP, qK, qD, qF⟩ := q; exact ⟨q0, q1, qP, va_K.moved (u := U) (U := U.calling gg mk a) (Vm.Alike.refl U.vm) qK, qD, ns_same qF⟩, va_recv hK hP (ci := 23) (q0 := 0) rfl rfl, fun U hU hW => ⟨rfl, by rw [hU], by rw [hU]; exact hPc, va_K.moved hW.alike hKc, hDc.weaken (fun _ _ _ _ => trivial), ns_call hF hS hFc hU hW⟩⟩ rfl rfl hl.1 rfl (lv_room (Nat.le_of_ble_eq_true rfl)) dX16_say_159 ⟨Nat.le_of_ble_eq_true rfl, Nat.le_of_ble_eq_true rfl⟩) hS (fun q _ h => hFc q h) hFc (fun r9 u t H1 locs ht hvm hw hB hz1 hk1 hS => ?_)
    obtain rfl := hw.symm
    obtain ⟨hP1, hK1, hD1⟩ := hB
    rw [ht] at hP1
    have hK1 := va_K.moved hvm.symm hK1
    obtain ⟨hP, hD⟩ := va_join (wr := [(q1, .inl (cyq1, 6, .inl (upd (upd (upd (upd (upd (upd (fun _ => 0) 0 x0) 1 x1) 2 x2) 3 x3) 4 x4) 5 x5)))]) (w1 := [(h0, .inr (23, [.int 0, v1, v2, v3, .ref (g 34), v4, v5, v6, v7]))]) hP hD [0] [1] rfl rfl (by decide) (by decide) hk1 hFc hP1 hD1
    have hK := (hK.sub (tys' := [(cyq1, .int)]) [0] rfl).app hK1
    generalize H1 = H at hP hS ⊢
    have hP : va_P (dC, dI) vwCl [(q1, .inl (cyq1, 6, .inl (upd (upd (upd (upd (upd (upd (fun _ => 0) 0 x0) 1 x1) 2 x2) 3 x3) 4 x4) 5 x5))), (h0, .inr (23, [.int 0, v1, v2, v3, .ref (g 34), v4, v5, v6, v7]))] H := hP
    have hD : va_D A [(q1, .inl (cyq1, 6, .inl (upd (upd (upd (upd (upd (upd (fun _ => 0) 0 x0) 1 x1) 2 x2) 3 x3) 4 x4) 5 x5))), (h0, .inr (23, [.int 0, v1, v2, v3, .ref (g 34), v4, v5, v6, v7]))] := hD
    have hK : va_K (dC, dI) vwCl [(cyq1, .int)] s := hK
    refine W.widen (k := 1) (n := 6) (Nat.le_of_ble_eq_true rfl) (Nat.le_of_ble_eq_true rfl) ?_
    refine lv_if_eq (tgt := 167) hx hb dX16_say_162 (by decide) (fun c1016 => ?_) (fun c1016 => absurd (by decide) c1016)
    refine lv_iinc (v := 1) (lv' := [(12, .int 1), (9, .ref (g 34)), (13, .int x0), (11, .int 6), (10, .ref q1), (0, .ref h0)]) hx hb dX16_say_167 hl (k := 2) rfl (by decide) (by decide) rfl (fun ls hl => ?_)
    refine lv_goto (tgt := 119) hx hb dX16_say_170 (by decide) ?_
    have hP := hP.sub (ws' := [(h0, .inr (23, [.int 0, v1, v2, v3, .ref (g 34), v4, v5, v6, v7])), (q1, .inl (cyq1, 6, .inl (upd (upd (upd (upd (upd (upd (fun _ => 0) 0 x0) 1 x1) 2 x2) 3 x3) 4 x4) 5 x5)))]) [1, 0] rfl
    have hD := hD.sub (ws' := [(h0, .inr (23, [.int 0, v1, v2, v3, .ref (g 34), v4, v5, v6, v7])), (q1, .inl (cyq1, 6, .inl (upd (upd (upd (upd (upd (upd (fun _ => 0) 0 x0) 1 x1) 2 x2) 3 x3) 4 x4) 5 x5)))]) [1, 0] (by decide) rfl
    have hK := hK.sub (tys' := [(cyq1, .int)]) [0] rfl
    have hl := lv_sub hl (l' := [(12, .int 1), (11, .int 6), (10, .ref q1), (9, .ref (g 34)), (0, .ref h0)]) [0, 3, 4, 1, 5] rfl
    refine W.widen (k := 7) (n := 46) (Nat.le_of_ble_eq_true rfl) (Nat.le_of_ble_eq_true rfl) ?_
    have hE2 : ns_len E9 x0 = 0 := by rw [hE]; exact ns_lenD x0 0 (by omega)
    exact ns_say_1_0 hE2 ex0 ex1 ex2 ex3 ex4 ex5 hx hb hml hown hts hA hF hK hP hD hS hl k09 k19 k29 k39 k49 k59 k69

set_option maxHeartbeats 4000000 in
set_option maxRecDepth 100000 in
theorem kX16_say_7 (l : Launch) (dC : Nat → ClassId) (dI : Nat → Nat → Nat) (g : Nat → Nat) (sz : Nat) (h0 : Nat) (x0 : Int32) (x1 : Int32) (x2 : Int32) (x3 : Int32) (x4 : Int32) (x5 : Int32) (v0 : Value) (v1 : Value) (v2 : Value) (v3 : Value) (v4 : Value) (v5 : Value) (v6 : Value) (v7 : Value) (ex0 : (-1 : Int) ≤ x0.toInt ∧ x0.toInt ≤ (21 : Int)) (ex1 : (-1 : Int) ≤ x1.toInt ∧ x1.toInt ≤ (21 : Int)) (ex2 : (-1 : Int) ≤ x2.toInt ∧ x2.toInt ≤ (21 : Int)) (ex3 : (-1 : Int) ≤ x3.toInt ∧ x3.toInt ≤ (21 : Int)) (ex4 : (-1 : Int) ≤ x4.toInt ∧ x4.toInt ≤ (21 : Int)) (ex5 : (-1 : Int) ≤ x5.toInt ∧ x5.toInt ≤ (21 : Int)) : Met l yX16_say wbX16_say ({ frames := 7, cells := 37, slots := 246, locals := 172 }) (va_Pc [.ref h0, .int x0, .int x1, .int x2, .int x3, .int x4, .int x5] (fun U => U.heap.size = sz ∧ va_P (dC, dI) vwCl [(h0, .inr (23, [v0, v1, v2, v3, .ref (g 34), v4, v5, v6, v7]))] U.heap ∧ va_K (dC, dI) vwCl [] U ∧ va_D (fun _ => True) [(h0, .inr (23, [v0, v1, v2, v3, .ref (g 34), v4, v5, v6, v7]))] ∧ ns_F g (va_A [(h0, .inr (23, [v0, v1, v2, v3, .ref (g 34), v4, v5, v6, v7]))] sz) U U.heap)) (va_Qi (fun (r : Int32) (_ : Unit) => r = (ns_len (ns_len (ns_len (ns_len (ns_len (ns_len 0 x0) x1) x2) x3) x4) x5)) (fun _ t => ∃ kr4 : Nat, va_P (dC, dI) vwCl [(h0, .inr (23, [.int 0, v1, v2, v3, .ref kr4, v4, v5, v6, v7]))] t.heap ∧ va_K (dC, dI) vwCl [] t ∧ va_D (va_A [(h0, .inr (23, [v0, v1, v2, v3, .ref (g 34), v4, v5, v6, v7]))] sz) [(h0, .inr (23, [.int 0, v1, v2, v3, .ref kr4, v4, v5, v6, v7]))]) (va_A [(h0, .inr (23, [v0, v1, v2, v3, .ref (g 34), v4, v5, v6, v7]))] sz)) 37 246 (va_A [(h0, .inr (23, [v0, v1, v2, v3, .ref (g 34), v4, v5, v6, v7]))] sz) := by
  refine Met.ofW (cc := cX16_say) (maxL := 14) (ret := (some .int)) (by decide) rfl ?_
  intro p e s m args below meth c s₁ B hml hv
  obtain ⟨rfl, hsz, hP, hK, hD0, hF⟩ := hv
  have hx := B.exec
  have hb := B.bytes
  have hr := B.returns
  have hts := atoms_spec (ws := wbX16_say) B.pre
  have hta : ∀ w ∈ wsALL, w.before _ s = true := fun w h => hts w (List.mem_cons_of_mem _ h)
  have hown : s.vm.findClass RX16 = some m.cls := findClass_of_methodNamed B.named
  have hlocks := B.notSynchronized
  subst hsz
  have hD := hD0.self (sz := s.heap.size)
  generalize hAe : va_A [(h0, .inr (23, [v0, v1, v2, v3, .ref (g 34), v4, v5, v6, v7]))] s.heap.size = A at hD hF ⊢
  have hA : ∀ q : Nat, s.heap.size ≤ q → A q := fun q h => by rw [← hAe]; exact Or.inr h
  have hS : va_S A s.heap s.heap [] := va_S.rf
  have hP : va_P (dC, dI) vwCl [(h0, .inr (23, [v0, v1, v2, v3, .ref (g 34), v4, v5, v6, v7]))] s.heap := hP
  have hl := lv_entry ([.ref h0, .int x0, .int x1, .int x2, .int x3, .int x4, .int x5]) (n := 14) (Nat.le_of_ble_eq_true rfl)
  rw [lg_entry_eq]
  generalize (lg_sl ([.ref h0, .int x0, .int x1, .int x2, .int x3, .int x4, .int x5]) ++ List.replicate (14 - (lg_sl ([.ref h0, .int x0, .int x1, .int x2, .int x3, .int x4, .int x5])).length) Slot.unset).toArray = ls at hl ⊢
  have hl : lv_has ls 14 [(0, .ref h0), (1, .int x0), (2, .int x1), (3, .int x2), (4, .int x3), (5, .int x4), (6, .int x5)] := hl
  refine lv_bipush (v := 6) hx hb dX16_say_0 (by decide) ?_
  refine va_newa (atype := .int) hx hb (hta _ wm15) rfl hK hP hD hS hA (N' := 6) (a0 := (6, .inl (fun _ => 0))) (fun _ => rfl) (by decide) (by decide) (Nat.le_of_ble_eq_true rfl) (Nat.le_of_ble_eq_true rfl) (Nat.le_of_ble_eq_true rfl) dX16_say_2 (fun q1 cyq1 H hK hP hD hS => ?_)
  have hP : va_P (dC, dI) vwCl [(h0, .inr (23, [v0, v1, v2, v3, .ref (g 34), v4, v5, v6, v7])), (q1, .inl (cyq1, 6, .inl (fun _ => 0)))] H := hP
  have hD : va_D A [(h0, .inr (23, [v0, v1, v2, v3, .ref (g 34), v4, v5, v6, v7])), (q1, .inl (cyq1, 6, .inl (fun _ => 0)))] := hD
  have hK : va_K (dC, dI) vwCl [(cyq1, .int)] s := hK
  refine W.widen (k := 1) (n := 6) (Nat.le_of_ble_eq_true rfl) (Nat.le_of_ble_eq_true rfl) ?_
  refine lv_dup hx hb dX16_say_4 rfl ?_
  refine lv_iconst (v := 0) hx hb dX16_say_5 (by decide) ?_
  refine lv_iload_n hx hb dX16_say_6 rfl (lv_at hl 1 rfl) ?_
  refine va_iast hx hb hK hP hD hS 1 0 rfl rfl (vp_in_nI (n := 0) (by decide) (by decide)) dX16_say_7 (fun H locs hP hD hS => ?_)
  have hP : va_P (dC, dI) vwCl [(h0, .inr (23, [v0, v1, v2, v3, .ref (g 34), v4, v5, v6, v7])), (q1, .inl (cyq1, 6, .inl (upd (fun _ => 0) 0 x0)))] H := hP
  have hD : va_D A [(h0, .inr (23, [v0, v1, v2, v3, .ref (g 34), v4, v5, v6, v7])), (q1, .inl (cyq1, 6, .inl (upd (fun _ => 0) 0 x0)))] := hD
  refine lv_dup hx hb dX16_say_8 rfl ?_
  refine lv_iconst (v := 1) hx hb dX16_say_9 (by decide) ?_
  refine lv_iload_n hx hb dX16_say_10 rfl (lv_at hl 2 rfl) ?_
  refine va_iast hx hb hK hP hD hS 1 0 rfl rfl (vp_in_nI (n := 1) (by decide) (by decide)) dX16_say_11 (fun H locs hP hD hS => ?_)
  have hP : va_P (dC, dI) vwCl [(h0, .inr (23, [v0, v1, v2, v3, .ref (g 34), v4, v5, v6, v7])), (q1, .inl (cyq1, 6, .inl (upd (upd (fun _ => 0) 0 x0) 1 x1)))] H := hP
  have hD : va_D A [(h0, .inr (23, [v0, v1, v2, v3, .ref (g 34), v4, v5, v6, v7])), (q1, .inl (cyq1, 6, .inl (upd (upd (fun _ => 0) 0 x0) 1 x1)))] := hD
  refine lv_dup hx hb dX16_say_12 rfl ?_
  refine lv_iconst (v := 2) hx hb dX16_say_13 (by decide) ?_
  refine lv_iload_n hx hb dX16_say_14 rfl (lv_at hl 3 rfl) ?_
  refine va_iast hx hb hK hP hD hS 1 0 rfl rfl (vp_in_nI (n := 2) (by decide) (by decide)) dX16_say_15 (fun H locs hP hD hS => ?_)
  have hP : va_P (dC, dI) vwCl [(h0, .inr (23, [v0, v1, v2, v3, .ref (g 34), v4, v5, v6, v7])), (q1, .inl (cyq1, 6, .inl (upd (upd (upd (fun _ => 0) 0 x0) 1 x1) 2 x2)))] H := hP
  have hD : va_D A [(h0, .inr (23, [v0, v1, v2, v3, .ref (g 34), v4, v5, v6, v7])), (q1, .inl (cyq1, 6, .inl (upd (upd (upd (fun _ => 0) 0 x0) 1 x1) 2 x2)))] := hD
  refine lv_dup hx hb dX16_say_16 rfl ?_
  refine lv_iconst (v := 3) hx hb dX16_say_17 (by decide) ?_
  refine lv_iload hx hb dX16_say_18 (lv_at hl 4 rfl) ?_
  refine va_iast hx hb hK hP hD hS 1 0 rfl rfl (vp_in_nI (n := 3) (by decide) (by decide)) dX16_say_20 (fun H locs hP hD hS => ?_)
  have hP : va_P (dC, dI) vwCl [(h0, .inr (23, [v0, v1, v2, v3, .ref (g 34), v4, v5, v6, v7])), (q1, .inl (cyq1, 6, .inl (upd (upd (upd (upd (fun _ => 0) 0 x0) 1 x1) 2 x2) 3 x3)))] H := hP
  have hD : va_D A [(h0, .inr (23, [v0, v1, v2, v3, .ref (g 34), v4, v5, v6, v7])), (q1, .inl (cyq1, 6, .inl (upd (upd (upd (upd (fun _ => 0) 0 x0) 1 x1) 2 x2) 3 x3)))] := hD
  refine lv_dup hx hb dX16_say_21 rfl ?_
  refine lv_iconst (v := 4) hx hb dX16_say_22 (by decide) ?_
  refine lv_iload hx hb dX16_say_23 (lv_at hl 5 rfl) ?_
  refine va_iast hx hb hK hP hD hS 1 0 rfl rfl (vp_in_nI (n := 4) (by decide) (by decide)) dX16_say_25 (fun H locs hP hD hS => ?_)
  have hP : va_P (dC, dI) vwCl [(h0, .inr (23, [v0, v1, v2, v3, .ref (g 34), v4, v5, v6, v7])), (q1, .inl (cyq1, 6, .inl (upd (upd (upd (upd (upd (fun _ => 0) 0 x0) 1 x1) 2 x2) 3 x3) 4 x4)))] H := hP
  have hD : va_D A [(h0, .inr (23, [v0, v1, v2, v3, .ref (g 34), v4, v5, v6, v7])), (q1, .inl (cyq1, 6, .inl (upd (upd (upd (upd (upd (fun _ => 0) 0 x0) 1 x1) 2 x2) 3 x3) 4 x4)))] := hD
  refine lv_dup hx hb dX16_say_26 rfl ?_
  refine lv_iconst (v := 5) hx hb dX16_say_27 (by decide) ?_
  refine lv_iload hx hb dX16_say_28 (lv_at hl 6 rfl) ?_
  refine va_iast hx hb hK hP hD hS 1 0 rfl rfl (vp_in_nI (n := 5) (by decide) (by decide)) dX16_say_30 (fun H locs hP hD hS => ?_)
  have hP : va_P (dC, dI) vwCl [(h0, .inr (23, [v0, v1, v2, v3, .ref (g 34), v4, v5, v6, v7])), (q1, .inl (cyq1, 6, .inl (upd (upd (upd (upd (upd (upd (fun _ => 0) 0 x0) 1 x1) 2 x2) 3 x3) 4 x4) 5 x5)))] H := hP
  have hD : va_D A [(h0, .inr (23, [v0, v1, v2, v3, .ref (g 34), v4, v5, v6, v7])), (q1, .inl (cyq1, 6, .inl (upd (upd (upd (upd (upd (upd (fun _ => 0) 0 x0) 1 x1) 2 x2) 3 x3) 4 x4) 5 x5)))] := hD
  refine lv_astore (lv' := [(7, .ref q1), (0, .ref h0), (1, .int x0), (2, .int x1), (3, .int x2), (4, .int x3), (5, .int x4), (6, .int x5)]) hx hb dX16_say_31 hl (by decide) rfl (fun ls hl => ?_)
  refine lv_iconst (v := 0) hx hb dX16_say_33 (by decide) ?_
  refine lv_istore (lv' := [(8, .int 0), (7, .ref q1), (0, .ref h0), (1, .int x0), (2, .int x1), (3, .int x2), (4, .int x3), (5, .int x4), (6, .int x5)]) hx hb dX16_say_34 hl (by decide) rfl (fun ls hl => ?_)
  refine lv_aload hx hb dX16_say_36 (lv_at hl 1 rfl) ?_
  refine lv_astore (lv' := [(9, .ref q1), (8, .int 0), (7, .ref q1), (0, .ref h0), (1, .int x0), (2, .int x1), (3, .int x2), (4, .int x3), (5, .int x4), (6, .int x5)]) hx hb dX16_say_38 hl (by decide) rfl (fun ls hl => ?_)
  refine lv_aload hx hb dX16_say_40 (lv_at hl 0 rfl) ?_
  refine va_alen (v := 6) hx hb hK hP 1 0 rfl rfl (show Int32.ofNat 6 = 6 by decide) dX16_say_42 ?_
  refine lv_istore (lv' := [(10, .int 6), (9, .ref q1), (8, .int 0), (7, .ref q1), (0, .ref h0), (1, .int x0), (2, .int x1), (3, .int x2), (4, .int x3), (5, .int x4), (6, .int x5)]) hx hb dX16_say_43 hl (by decide) rfl (fun ls hl => ?_)
  refine lv_iconst (v := 0) hx hb dX16_say_45 (by decide) ?_
  refine lv_istore (lv' := [(11, .int 0), (10, .int 6), (9, .ref q1), (8, .int 0), (7, .ref q1), (0, .ref h0), (1, .int x0), (2, .int x1), (3, .int x2), (4, .int x3), (5, .int x4), (6, .int x5)]) hx hb dX16_say_46 hl (by decide) rfl (fun ls hl => ?_)
  refine lv_iload hx hb dX16_say_48 (lv_at hl 0 rfl) ?_
  refine lv_iload hx hb dX16_say_50 (lv_at hl 1 rfl) ?_
  refine lv_icmp_ge (tgt := 89) hx hb dX16_say_52 (by decide) (fun c2 => absurd c2 (by decide)) (fun c2 => ?_)
  refine lv_aload hx hb dX16_say_55 (lv_at hl 2 rfl) ?_
  refine lv_iload hx hb dX16_say_57 (lv_at hl 0 rfl) ?_
  refine va_iald hx hb hK hP 1 0 rfl rfl (vp_in_nI (n := 0) (by decide) (by decide)) dX16_say_59 ?_
  refine lv_topi (fun y3 ey3 => ?_)
  obtain rfl : x0 = y3 := ey3.symm
  refine lv_istore (lv' := [(12, .int x0), (11, .int 0), (10, .int 6), (9, .ref q1), (8, .int 0), (7, .ref q1), (0, .ref h0), (1, .int x0), (2, .int x1), (3, .int x2), (4, .int x3), (5, .int x4), (6, .int x5)]) hx hb dX16_say_60 hl (by decide) rfl (fun ls hl => ?_)
  refine lv_iload hx hb dX16_say_62 (lv_at hl 4 rfl) ?_
  refine lv_iload hx hb dX16_say_64 (lv_at hl 0 rfl) ?_
  refine lv_iconst (v := (-1)) hx hb dX16_say_66 (by decide) ?_
  refine lv_bipush (v := 21) hx hb dX16_say_67 (by decide) ?_
  have hPc := hP.sub (ws' := []) [] rfl
  have hDc := hD.sub (ws' := []) [] (by decide) rfl
  have hKc := hK.sub (tys' := []) [] rfl
  have hFc := va_free (wc := []) hD hS hA [] rfl
  refine va_calli (va_runS (As := [.int x0, .int (-1), .int 21]) (rest := [.int 0]) ⟨hx, hb, hml, hown, hts⟩ (kX16_isIn_24 l dC dI g H.size x0 ⟨by omega, by omega⟩) (va_cwS 3 hts (ns_gp (List.forall_mem_cons.mpr ⟨wm240, (List.forall_mem_cons.mpr ⟨wm241, (List.forall_mem_cons.mpr ⟨wm192, (fun _ h9 => nomatch h9)⟩)⟩)⟩) wm233) rfl rfl rfl (by decide +kernel) ⟨Nat.le_of_ble_eq_true rfl, Nat.le_of_ble_eq_true rfl⟩) ⟨fun a U gg mk q => by obtain ⟨q0, q1, qP, qK, qD, qF⟩ := q; exact ⟨q0, q1, qP, va_K.moved (u := U) (U := U.calling gg mk a) (Vm.Alike.refl U.vm) qK, qD, ns_same qF⟩, fun U hU hW => ⟨rfl, by rw [hU], by rw [hU]; exact hPc, va_K.moved hW.alike hKc, hDc.weaken (fun _ _ _ _ => trivial), ns_call hF hS hFc hU hW⟩⟩ rfl rfl hl.1 rfl (lv_room (Nat.le_of_ble_eq_true rfl)) dX16_say_69 ⟨Nat.le_of_ble_eq_true rfl, Nat.le_of_ble_eq_true rfl⟩) hS (fun q _ h => hFc q h) hFc (fun r9 u t H1 locs ht hvm hw hB hz1 hk1 hS => ?_)
  obtain rfl := hw.symm
  obtain ⟨hP1, hK1, hD1⟩ := hB
  rw [ht] at hP1
  have hK1 := va_K.moved hvm.symm hK1
  obtain ⟨hP, hD⟩ := va_join (wr := [(h0, .inr (23, [v0, v1, v2, v3, .ref (g 34), v4, v5, v6, v7])), (q1, .inl (cyq1, 6, .inl (upd (upd (upd (upd (upd (upd (fun _ => 0) 0 x0) 1 x1) 2 x2) 3 x3) 4 x4) 5 x5)))]) (w1 := []) hP hD [] [0, 1] rfl rfl (by decide) (by decide) hk1 hFc hP1 hD1
  have hK := (hK.sub (tys' := [(cyq1, .int)]) [0] rfl).app hK1
  generalize H1 = H at hP hS ⊢
  have hP : va_P (dC, dI) vwCl [(h0, .inr (23, [v0, v1, v2, v3, .ref (g 34), v4, v5, v6, v7])), (q1, .inl (cyq1, 6, .inl (upd (upd (upd (upd (upd (upd (fun _ => 0) 0 x0) 1 x1) 2 x2) 3 x3) 4 x4) 5 x5)))] H := hP
  have hD : va_D A [(h0, .inr (23, [v0, v1, v2, v3, .ref (g 34), v4, v5, v6, v7])), (q1, .inl (cyq1, 6, .inl (upd (upd (upd (upd (upd (upd (fun _ => 0) 0 x0) 1 x1) 2 x2) 3 x3) 4 x4) 5 x5)))] := hD
  have hK : va_K (dC, dI) vwCl [(cyq1, .int)] s := hK
  refine W.widen (k := 1) (n := 6) (Nat.le_of_ble_eq_true rfl) (Nat.le_of_ble_eq_true rfl) ?_
  refine lv_if_ne (tgt := 79) hx hb dX16_say_72 (by decide) (fun c4 => ?_) (fun c4 => absurd c4 (by decide))
  refine lv_iconst (v := 0) hx hb dX16_say_79 (by decide) ?_
  refine lv_ior hx hb dX16_say_80 ?_
  refine lv_topi (fun y5 ey5 => ?_)
  obtain rfl : y5 = 0 := ey5.trans (by decide)
  refine lv_istore (lv' := [(8, .int 0), (12, .int x0), (11, .int 0), (10, .int 6), (9, .ref q1), (7, .ref q1), (0, .ref h0), (1, .int x0), (2, .int x1), (3, .int x2), (4, .int x3), (5, .int x4), (6, .int x5)]) hx hb dX16_say_81 hl (by decide) rfl (fun ls hl => ?_)
  refine lv_iinc (v := 1) (lv' := [(11, .int 1), (8, .int 0), (12, .int x0), (10, .int 6), (9, .ref q1), (7, .ref q1), (0, .ref h0), (1, .int x0), (2, .int x1), (3, .int x2), (4, .int x3), (5, .int x4), (6, .int x5)]) hx hb dX16_say_83 hl (k := 2) rfl (by decide) (by decide) rfl (fun ls hl => ?_)
  refine lv_goto (tgt := 48) hx hb dX16_say_86 (by decide) ?_
  refine lv_iload hx hb dX16_say_48 (lv_at hl 0 rfl) ?_
  refine lv_iload hx hb dX16_say_50 (lv_at hl 3 rfl) ?_
  refine lv_icmp_ge (tgt := 89) hx hb dX16_say_52 (by decide) (fun c6 => absurd c6 (by decide)) (fun c6 => ?_)
  refine lv_aload hx hb dX16_say_55 (lv_at hl 4 rfl) ?_
  refine lv_iload hx hb dX16_say_57 (lv_at hl 0 rfl) ?_
  refine va_iald hx hb hK hP 1 0 rfl rfl (vp_in_nI (n := 1) (by decide) (by decide)) dX16_say_59 ?_
  refine lv_topi (fun y7 ey7 => ?_)
  obtain rfl : x1 = y7 := ey7.symm
  refine lv_istore (lv' := [(12, .int x1), (11, .int 1), (8, .int 0), (10, .int 6), (9, .ref q1), (7, .ref q1), (0, .ref h0), (1, .int x0), (2, .int x1), (3, .int x2), (4, .int x3), (5, .int x4), (6, .int x5)]) hx hb dX16_say_60 hl (by decide) rfl (fun ls hl => ?_)
  refine lv_iload hx hb dX16_say_62 (lv_at hl 2 rfl) ?_
  refine lv_iload hx hb dX16_say_64 (lv_at hl 0 rfl) ?_
  refine lv_iconst (v := (-1)) hx hb dX16_say_66 (by decide) ?_
  refine lv_bipush (v := 21) hx hb dX16_say_67 (by decide) ?_
  have hPc := hP.sub (ws' := []) [] rfl
  have hDc := hD.sub (ws' := []) [] (by decide) rfl
  have hKc := hK.sub (tys' := []) [] rfl
  have hFc := va_free (wc := []) hD hS hA [] rfl
  refine va_calli (va_runS (As := [.int x1, .int (-1), .int 21]) (rest := [.int 0]) ⟨hx, hb, hml, hown, hts⟩ (kX16_isIn_24 l dC dI g H.size x1 ⟨by omega, by omega⟩) (va_cwS 3 hts (ns_gp (List.forall_mem_cons.mpr ⟨wm240, (List.forall_mem_cons.mpr ⟨wm241, (List.forall_mem_cons.mpr ⟨wm192, (fun _ h9 => nomatch h9)⟩)⟩)⟩) wm233) rfl rfl rfl (by decide +kernel) ⟨Nat.le_of_ble_eq_true rfl, Nat.le_of_ble_eq_true rfl⟩) ⟨fun a U gg mk q => by obtain ⟨q0, q1, qP, qK, qD, qF⟩ := q; exact ⟨q0, q1, qP, va_K.moved (u := U) (U := U.calling gg mk a) (Vm.Alike.refl U.vm) qK, qD, ns_same qF⟩, fun U hU hW => ⟨rfl, by rw [hU], by rw [hU]; exact hPc, va_K.moved hW.alike hKc, hDc.weaken (fun _ _ _ _ => trivial), ns_call hF hS hFc hU hW⟩⟩ rfl rfl hl.1 rfl (lv_room (Nat.le_of_ble_eq_true rfl)) dX16_say_69 ⟨Nat.le_of_ble_eq_true rfl, Nat.le_of_ble_eq_true rfl⟩) hS (fun q _ h => hFc q h) hFc (fun r9 u t H1 locs ht hvm hw hB hz1 hk1 hS => ?_)
  obtain rfl := hw.symm
  obtain ⟨hP1, hK1, hD1⟩ := hB
  rw [ht] at hP1
  have hK1 := va_K.moved hvm.symm hK1
  obtain ⟨hP, hD⟩ := va_join (wr := [(h0, .inr (23, [v0, v1, v2, v3, .ref (g 34), v4, v5, v6, v7])), (q1, .inl (cyq1, 6, .inl (upd (upd (upd (upd (upd (upd (fun _ => 0) 0 x0) 1 x1) 2 x2) 3 x3) 4 x4) 5 x5)))]) (w1 := []) hP hD [] [0, 1] rfl rfl (by decide) (by decide) hk1 hFc hP1 hD1
  have hK := (hK.sub (tys' := [(cyq1, .int)]) [0] rfl).app hK1
  generalize H1 = H at hP hS ⊢
  have hP : va_P (dC, dI) vwCl [(h0, .inr (23, [v0, v1, v2, v3, .ref (g 34), v4, v5, v6, v7])), (q1, .inl (cyq1, 6, .inl (upd (upd (upd (upd (upd (upd (fun _ => 0) 0 x0) 1 x1) 2 x2) 3 x3) 4 x4) 5 x5)))] H := hP
  have hD : va_D A [(h0, .inr (23, [v0, v1, v2, v3, .ref (g 34), v4, v5, v6, v7])), (q1, .inl (cyq1, 6, .inl (upd (upd (upd (upd (upd (upd (fun _ => 0) 0 x0) 1 x1) 2 x2) 3 x3) 4 x4) 5 x5)))] := hD
  have hK : va_K (dC, dI) vwCl [(cyq1, .int)] s := hK
  refine W.widen (k := 1) (n := 6) (Nat.le_of_ble_eq_true rfl) (Nat.le_of_ble_eq_true rfl) ?_
  refine lv_if_ne (tgt := 79) hx hb dX16_say_72 (by decide) (fun c8 => ?_) (fun c8 => absurd c8 (by decide))
  refine lv_iconst (v := 0) hx hb dX16_say_79 (by decide) ?_
  refine lv_ior hx hb dX16_say_80 ?_
  refine lv_topi (fun y9 ey9 => ?_)
  obtain rfl : y9 = 0 := ey9.trans (by decide)
  refine lv_istore (lv' := [(8, .int 0), (12, .int x1), (11, .int 1), (10, .int 6), (9, .ref q1), (7, .ref q1), (0, .ref h0), (1, .int x0), (2, .int x1), (3, .int x2), (4, .int x3), (5, .int x4), (6, .int x5)]) hx hb dX16_say_81 hl (by decide) rfl (fun ls hl => ?_)
  refine lv_iinc (v := 2) (lv' := [(11, .int 2), (8, .int 0), (12, .int x1), (10, .int 6), (9, .ref q1), (7, .ref q1), (0, .ref h0), (1, .int x0), (2, .int x1), (3, .int x2), (4, .int x3), (5, .int x4), (6, .int x5)]) hx hb dX16_say_83 hl (k := 2) rfl (by decide) (by decide) rfl (fun ls hl => ?_)
  refine lv_goto (tgt := 48) hx hb dX16_say_86 (by decide) ?_
  refine lv_iload hx hb dX16_say_48 (lv_at hl 0 rfl) ?_
  refine lv_iload hx hb dX16_say_50 (lv_at hl 3 rfl) ?_
  refine lv_icmp_ge (tgt := 89) hx hb dX16_say_52 (by decide) (fun c10 => absurd c10 (by decide)) (fun c10 => ?_)
  refine lv_aload hx hb dX16_say_55 (lv_at hl 4 rfl) ?_
  refine lv_iload hx hb dX16_say_57 (lv_at hl 0 rfl) ?_
  refine va_iald hx hb hK hP 1 0 rfl rfl (vp_in_nI (n := 2) (by decide) (by decide)) dX16_say_59 ?_
  refine lv_topi (fun y11 ey11 => ?_)
  obtain rfl : x2 = y11 := ey11.symm
  refine lv_istore (lv' := [(12, .int x2), (11, .int 2), (8, .int 0), (10, .int 6), (9, .ref q1), (7, .ref q1), (0, .ref h0), (1, .int x0), (2, .int x1), (3, .int x2), (4, .int x3), (5, .int x4), (6, .int x5)]) hx hb dX16_say_60 hl (by decide) rfl (fun ls hl => ?_)
  refine lv_iload hx hb dX16_say_62 (lv_at hl 2 rfl) ?_
  refine lv_iload hx hb dX16_say_64 (lv_at hl 0 rfl) ?_
  refine lv_iconst (v := (-1)) hx hb dX16_say_66 (by decide) ?_
  refine lv_bipush (v := 21) hx hb dX16_say_67 (by decide) ?_
  have hPc := hP.sub (ws' := []) [] rfl
  have hDc := hD.sub (ws' := []) [] (by decide) rfl
  have hKc := hK.sub (tys' := []) [] rfl
  have hFc := va_free (wc := []) hD hS hA [] rfl
  refine va_calli (va_runS (As := [.int x2, .int (-1), .int 21]) (rest := [.int 0]) ⟨hx, hb, hml, hown, hts⟩ (kX16_isIn_24 l dC dI g H.size x2 ⟨by omega, by omega⟩) (va_cwS 3 hts (ns_gp (List.forall_mem_cons.mpr ⟨wm240, (List.forall_mem_cons.mpr ⟨wm241, (List.forall_mem_cons.mpr ⟨wm192, (fun _ h9 => nomatch h9)⟩)⟩)⟩) wm233) rfl rfl rfl (by decide +kernel) ⟨Nat.le_of_ble_eq_true rfl, Nat.le_of_ble_eq_true rfl⟩) ⟨fun a U gg mk q => by obtain ⟨q0, q1, qP, qK, qD, qF⟩ := q; exact ⟨q0, q1, qP, va_K.moved (u := U) (U := U.calling gg mk a) (Vm.Alike.refl U.vm) qK, qD, ns_same qF⟩, fun U hU hW => ⟨rfl, by rw [hU], by rw [hU]; exact hPc, va_K.moved hW.alike hKc, hDc.weaken (fun _ _ _ _ => trivial), ns_call hF hS hFc hU hW⟩⟩ rfl rfl hl.1 rfl (lv_room (Nat.le_of_ble_eq_true rfl)) dX16_say_69 ⟨Nat.le_of_ble_eq_true rfl, Nat.le_of_ble_eq_true rfl⟩) hS (fun q _ h => hFc q h) hFc (fun r9 u t H1 locs ht hvm hw hB hz1 hk1 hS => ?_)
  obtain rfl := hw.symm
  obtain ⟨hP1, hK1, hD1⟩ := hB
  rw [ht] at hP1
  have hK1 := va_K.moved hvm.symm hK1
  obtain ⟨hP, hD⟩ := va_join (wr := [(h0, .inr (23, [v0, v1, v2, v3, .ref (g 34), v4, v5, v6, v7])), (q1, .inl (cyq1, 6, .inl (upd (upd (upd (upd (upd (upd (fun _ => 0) 0 x0) 1 x1) 2 x2) 3 x3) 4 x4) 5 x5)))]) (w1 := []) hP hD [] [0, 1] rfl rfl (by decide) (by decide) hk1 hFc hP1 hD1
  have hK := (hK.sub (tys' := [(cyq1, .int)]) [0] rfl).app hK1
  generalize H1 = H at hP hS ⊢
  have hP : va_P (dC, dI) vwCl [(h0, .inr (23, [v0, v1, v2, v3, .ref (g 34), v4, v5, v6, v7])), (q1, .inl (cyq1, 6, .inl (upd (upd (upd (upd (upd (upd (fun _ => 0) 0 x0) 1 x1) 2 x2) 3 x3) 4 x4) 5 x5)))] H := hP
  have hD : va_D A [(h0, .inr (23, [v0, v1, v2, v3, .ref (g 34), v4, v5, v6, v7])), (q1, .inl (cyq1, 6, .inl (upd (upd (upd (upd (upd (upd (fun _ => 0) 0 x0) 1 x1) 2 x2) 3 x3) 4 x4) 5 x5)))] := hD
  have hK : va_K (dC, dI) vwCl [(cyq1, .int)] s := hK
  refine W.widen (k := 1) (n := 6) (Nat.le_of_ble_eq_true rfl) (Nat.le_of_ble_eq_true rfl) ?_
  refine lv_if_ne (tgt := 79) hx hb dX16_say_72 (by decide) (fun c12 => ?_) (fun c12 => absurd c12 (by decide))
  refine lv_iconst (v := 0) hx hb dX16_say_79 (by decide) ?_
  refine lv_ior hx hb dX16_say_80 ?_
  refine lv_topi (fun y13 ey13 => ?_)
  obtain rfl : y13 = 0 := ey13.trans (by decide)
  refine lv_istore (lv' := [(8, .int 0), (12, .int x2), (11, .int 2), (10, .int 6), (9, .ref q1), (7, .ref q1), (0, .ref h0), (1, .int x0), (2, .int x1), (3, .int x2), (4, .int x3), (5, .int x4), (6, .int x5)]) hx hb dX16_say_81 hl (by decide) rfl (fun ls hl => ?_)
  refine lv_iinc (v := 3) (lv' := [(11, .int 3), (8, .int 0), (12, .int x2), (10, .int 6), (9, .ref q1), (7, .ref q1), (0, .ref h0), (1, .int x0), (2, .int x1), (3, .int x2), (4, .int x3), (5, .int x4), (6, .int x5)]) hx hb dX16_say_83 hl (k := 2) rfl (by decide) (by decide) rfl (fun ls hl => ?_)
  refine lv_goto (tgt := 48) hx hb dX16_say_86 (by decide) ?_
  refine lv_iload hx hb dX16_say_48 (lv_at hl 0 rfl) ?_
  refine lv_iload hx hb dX16_say_50 (lv_at hl 3 rfl) ?_
  refine lv_icmp_ge (tgt := 89) hx hb dX16_say_52 (by decide) (fun c14 => absurd c14 (by decide)) (fun c14 => ?_)
  refine lv_aload hx hb dX16_say_55 (lv_at hl 4 rfl) ?_
  refine lv_iload hx hb dX16_say_57 (lv_at hl 0 rfl) ?_
  refine va_iald hx hb hK hP 1 0 rfl rfl (vp_in_nI (n := 3) (by decide) (by decide)) dX16_say_59 ?_
  refine lv_topi (fun y15 ey15 => ?_)
  obtain rfl : x3 = y15 := ey15.symm
  refine lv_istore (lv' := [(12, .int x3), (11, .int 3), (8, .int 0), (10, .int 6), (9, .ref q1), (7, .ref q1), (0, .ref h0), (1, .int x0), (2, .int x1), (3, .int x2), (4, .int x3), (5, .int x4), (6, .int x5)]) hx hb dX16_say_60 hl (by decide) rfl (fun ls hl => ?_)
  refine lv_iload hx hb dX16_say_62 (lv_at hl 2 rfl) ?_
  refine lv_iload hx hb dX16_say_64 (lv_at hl 0 rfl) ?_
  refine lv_iconst (v := (-1)) hx hb dX16_say_66 (by decide) ?_
  refine lv_bipush (v := 21) hx hb dX16_say_67 (by decide) ?_
  have hPc := hP.sub (ws' := []) [] rfl
  have hDc := hD.sub (ws' := []) [] (by decide) rfl
  have hKc := hK.sub (tys' := []) [] rfl
  have hFc := va_free (wc := []) hD hS hA [] rfl
  refine va_calli (va_runS (As := [.int x3, .int (-1), .int 21]) (rest := [.int 0]) ⟨hx, hb, hml, hown, hts⟩ (kX16_isIn_24 l dC dI g H.size x3 ⟨by omega, by omega⟩) (va_cwS 3 hts (ns_gp (List.forall_mem_cons.mpr ⟨wm240, (List.forall_mem_cons.mpr ⟨wm241, (List.forall_mem_cons.mpr ⟨wm192, (fun _ h9 => nomatch h9)⟩)⟩)⟩) wm233) rfl rfl rfl (by decide +kernel) ⟨Nat.le_of_ble_eq_true rfl, Nat.le_of_ble_eq_true rfl⟩) ⟨fun a U gg mk q => by obtain ⟨q0, q1, qP, qK, qD, qF⟩ := q; exact ⟨q0, q1, qP, va_K.moved (u := U) (U := U.calling gg mk a) (Vm.Alike.refl U.vm) qK, qD, ns_same qF⟩, fun U hU hW => ⟨rfl, by rw [hU], by rw [hU]; exact hPc, va_K.moved hW.alike hKc, hDc.weaken (fun _ _ _ _ => trivial), ns_call hF hS hFc hU hW⟩⟩ rfl rfl hl.1 rfl (lv_room (Nat.le_of_ble_eq_true rfl)) dX16_say_69 ⟨Nat.le_of_ble_eq_true rfl, Nat.le_of_ble_eq_true rfl⟩) hS (fun q _ h => hFc q h) hFc (fun r9 u t H1 locs ht hvm hw hB hz1 hk1 hS => ?_)
  obtain rfl := hw.symm
  obtain ⟨hP1, hK1, hD1⟩ := hB
  rw [ht] at hP1
  have hK1 := va_K.moved hvm.symm hK1
  obtain ⟨hP, hD⟩ := va_join (wr := [(h0, .inr (23, [v0, v1, v2, v3, .ref (g 34), v4, v5, v6, v7])), (q1, .inl (cyq1, 6, .inl (upd (upd (upd (upd (upd (upd (fun _ => 0) 0 x0) 1 x1) 2 x2) 3 x3) 4 x4) 5 x5)))]) (w1 := []) hP hD [] [0, 1] rfl rfl (by decide) (by decide) hk1 hFc hP1 hD1
  have hK := (hK.sub (tys' := [(cyq1, .int)]) [0] rfl).app hK1
  generalize H1 = H at hP hS ⊢
  have hP : va_P (dC, dI) vwCl [(h0, .inr (23, [v0, v1, v2, v3, .ref (g 34), v4, v5, v6, v7])), (q1, .inl (cyq1, 6, .inl (upd (upd (upd (upd (upd (upd (fun _ => 0) 0 x0) 1 x1) 2 x2) 3 x3) 4 x4) 5 x5)))] H := hP
  have hD : va_D A [(h0, .inr (23, [v0, v1, v2, v3, .ref (g 34), v4, v5, v6, v7])), (q1, .inl (cyq1, 6, .inl (upd (upd (upd (upd (upd (upd (fun _ => 0) 0 x0) 1 x1) 2 x2) 3 x3) 4 x4) 5 x5)))] := hD
  have hK : va_K (dC, dI) vwCl [(cyq1, .int)] s := hK
  refine W.widen (k := 1) (n := 6) (Nat.le_of_ble_eq_true rfl) (Nat.le_of_ble_eq_true rfl) ?_
  refine lv_if_ne (tgt := 79) hx hb dX16_say_72 (by decide) (fun c16 => ?_) (fun c16 => absurd c16 (by decide))
  refine lv_iconst (v := 0) hx hb dX16_say_79 (by decide) ?_
  refine lv_ior hx hb dX16_say_80 ?_
  refine lv_topi (fun y17 ey17 => ?_)
  obtain rfl : y17 = 0 := ey17.trans (by decide)
  refine lv_istore (lv' := [(8, .int 0), (12, .int x3), (11, .int 3), (10, .int 6), (9, .ref q1), (7, .ref q1), (0, .ref h0), (1, .int x0), (2, .int x1), (3, .int x2), (4, .int x3), (5, .int x4), (6, .int x5)]) hx hb dX16_say_81 hl (by decide) rfl (fun ls hl => ?_)
  refine lv_iinc (v := 4) (lv' := [(11, .int 4), (8, .int 0), (12, .int x3), (10, .int 6), (9, .ref q1), (7, .ref q1), (0, .ref h0), (1, .int x0), (2, .int x1), (3, .int x2), (4, .int x3), (5, .int x4), (6, .int x5)]) hx hb dX16_say_83 hl (k := 2) rfl (by decide) (by decide) rfl (fun ls hl => ?_)
  refine lv_goto (tgt := 48) hx hb dX16_say_86 (by decide) ?_
  refine lv_iload hx hb dX16_say_48 (lv_at hl 0 rfl) ?_
  refine lv_iload hx hb dX16_say_50 (lv_at hl 3 rfl) ?_
  refine lv_icmp_ge (tgt := 89) hx hb dX16_say_52 (by decide) (fun c18 => absurd c18 (by decide)) (fun c18 => ?_)
  refine lv_aload hx hb dX16_say_55 (lv_at hl 4 rfl) ?_
  refine lv_iload hx hb dX16_say_57 (lv_at hl 0 rfl) ?_
  refine va_iald hx hb hK hP 1 0 rfl rfl (vp_in_nI (n := 4) (by decide) (by decide)) dX16_say_59 ?_
  refine lv_topi (fun y19 ey19 => ?_)
  obtain rfl : x4 = y19 := ey19.symm
  refine lv_istore (lv' := [(12, .int x4), (11, .int 4), (8, .int 0), (10, .int 6), (9, .ref q1), (7, .ref q1), (0, .ref h0), (1, .int x0), (2, .int x1), (3, .int x2), (4, .int x3), (5, .int x4), (6, .int x5)]) hx hb dX16_say_60 hl (by decide) rfl (fun ls hl => ?_)
  refine lv_iload hx hb dX16_say_62 (lv_at hl 2 rfl) ?_
  refine lv_iload hx hb dX16_say_64 (lv_at hl 0 rfl) ?_
  refine lv_iconst (v := (-1)) hx hb dX16_say_66 (by decide) ?_
  refine lv_bipush (v := 21) hx hb dX16_say_67 (by decide) ?_
  have hPc := hP.sub (ws' := []) [] rfl
  have hDc := hD.sub (ws' := []) [] (by decide) rfl
  have hKc := hK.sub (tys' := []) [] rfl
  have hFc := va_free (wc := []) hD hS hA [] rfl
  refine va_calli (va_runS (As := [.int x4, .int (-1), .int 21]) (rest := [.int 0]) ⟨hx, hb, hml, hown, hts⟩ (kX16_isIn_24 l dC dI g H.size x4 ⟨by omega, by omega⟩) (va_cwS 3 hts (ns_gp (List.forall_mem_cons.mpr ⟨wm240, (List.forall_mem_cons.mpr ⟨wm241, (List.forall_mem_cons.mpr ⟨wm192, (fun _ h9 => nomatch h9)⟩)⟩)⟩) wm233) rfl rfl rfl (by decide +kernel) ⟨Nat.le_of_ble_eq_true rfl, Nat.le_of_ble_eq_true rfl⟩) ⟨fun a U gg mk q => by obtain ⟨q0, q1, qP, qK, qD, qF⟩ := q; exact ⟨q0, q1, qP, va_K.moved (u := U) (U := U.calling gg mk a) (Vm.Alike.refl U.vm) qK, qD, ns_same qF⟩, fun U hU hW => ⟨rfl, by rw [hU], by rw [hU]; exact hPc, va_K.moved hW.alike hKc, hDc.weaken (fun _ _ _ _ => trivial), ns_call hF hS hFc hU hW⟩⟩ rfl rfl hl.1 rfl (lv_room (Nat.le_of_ble_eq_true rfl)) dX16_say_69 ⟨Nat.le_of_ble_eq_true rfl, Nat.le_of_ble_eq_true rfl⟩) hS (fun q _ h => hFc q h) hFc (fun r9 u t H1 locs ht hvm hw hB hz1 hk1 hS => ?_)
  obtain rfl := hw.symm
  obtain ⟨hP1, hK1, hD1⟩ := hB
  rw [ht] at hP1
  have hK1 := va_K.moved hvm.symm hK1
  obtain ⟨hP, hD⟩ := va_join (wr := [(h0, .inr (23, [v0, v1, v2, v3, .ref (g 34), v4, v5, v6, v7])), (q1, .inl (cyq1, 6, .inl (upd (upd (upd (upd (upd (upd (fun _ => 0) 0 x0) 1 x1) 2 x2) 3 x3) 4 x4) 5 x5)))]) (w1 := []) hP hD [] [0, 1] rfl rfl (by decide) (by decide) hk1 hFc hP1 hD1
  have hK := (hK.sub (tys' := [(cyq1, .int)]) [0] rfl).app hK1
  generalize H1 = H at hP hS ⊢
  have hP : va_P (dC, dI) vwCl [(h0, .inr (23, [v0, v1, v2, v3, .ref (g 34), v4, v5, v6, v7])), (q1, .inl (cyq1, 6, .inl (upd (upd (upd (upd (upd (upd (fun _ => 0) 0 x0) 1 x1) 2 x2) 3 x3) 4 x4) 5 x5)))] H := hP
  have hD : va_D A [(h0, .inr (23, [v0, v1, v2, v3, .ref (g 34), v4, v5, v6, v7])), (q1, .inl (cyq1, 6, .inl (upd (upd (upd (upd (upd (upd (fun _ => 0) 0 x0) 1 x1) 2 x2) 3 x3) 4 x4) 5 x5)))] := hD
  have hK : va_K (dC, dI) vwCl [(cyq1, .int)] s := hK
  refine W.widen (k := 1) (n := 6) (Nat.le_of_ble_eq_true rfl) (Nat.le_of_ble_eq_true rfl) ?_
  refine lv_if_ne (tgt := 79) hx hb dX16_say_72 (by decide) (fun c20 => ?_) (fun c20 => absurd c20 (by decide))
  refine lv_iconst (v := 0) hx hb dX16_say_79 (by decide) ?_
  refine lv_ior hx hb dX16_say_80 ?_
  refine lv_topi (fun y21 ey21 => ?_)
  obtain rfl : y21 = 0 := ey21.trans (by decide)
  refine lv_istore (lv' := [(8, .int 0), (12, .int x4), (11, .int 4), (10, .int 6), (9, .ref q1), (7, .ref q1), (0, .ref h0), (1, .int x0), (2, .int x1), (3, .int x2), (4, .int x3), (5, .int x4), (6, .int x5)]) hx hb dX16_say_81 hl (by decide) rfl (fun ls hl => ?_)
  refine lv_iinc (v := 5) (lv' := [(11, .int 5), (8, .int 0), (12, .int x4), (10, .int 6), (9, .ref q1), (7, .ref q1), (0, .ref h0), (1, .int x0), (2, .int x1), (3, .int x2), (4, .int x3), (5, .int x4), (6, .int x5)]) hx hb dX16_say_83 hl (k := 2) rfl (by decide) (by decide) rfl (fun ls hl => ?_)
  refine lv_goto (tgt := 48) hx hb dX16_say_86 (by decide) ?_
  refine lv_iload hx hb dX16_say_48 (lv_at hl 0 rfl) ?_
  refine lv_iload hx hb dX16_say_50 (lv_at hl 3 rfl) ?_
  refine lv_icmp_ge (tgt := 89) hx hb dX16_say_52 (by decide) (fun c22 => absurd c22 (by decide)) (fun c22 => ?_)
  refine lv_aload hx hb dX16_say_55 (lv_at hl 4 rfl) ?_
  refine lv_iload hx hb dX16_say_57 (lv_at hl 0 rfl) ?_
  refine va_iald hx hb hK hP 1 0 rfl rfl (vp_in_nI (n := 5) (by decide) (by decide)) dX16_say_59 ?_
  refine lv_topi (fun y23 ey23 => ?_)
  obtain rfl : x5 = y23 := ey23.symm
  refine lv_istore (lv' := [(12, .int x5), (11, .int 5), (8, .int 0), (10, .int 6), (9, .ref q1), (7, .ref q1), (0, .ref h0), (1, .int x0), (2, .int x1), (3, .int x2), (4, .int x3), (5, .int x4), (6, .int x5)]) hx hb dX16_say_60 hl (by decide) rfl (fun ls hl => ?_)
  refine lv_iload hx hb dX16_say_62 (lv_at hl 2 rfl) ?_
  refine lv_iload hx hb dX16_say_64 (lv_at hl 0 rfl) ?_
  refine lv_iconst (v := (-1)) hx hb dX16_say_66 (by decide) ?_
  refine lv_bipush (v := 21) hx hb dX16_say_67 (by decide) ?_
  have hPc := hP.sub (ws' := []) [] rfl
  have hDc := hD.sub (ws' := []) [] (by decide) rfl
  have hKc := hK.sub (tys' := []) [] rfl
  have hFc := va_free (wc := []) hD hS hA [] rfl
  refine va_calli (va_runS (As := [.int x5, .int (-1), .int 21]) (rest := [.int 0]) ⟨hx, hb, hml, hown, hts⟩ (kX16_isIn_24 l dC dI g H.size x5 ⟨by omega, by omega⟩) (va_cwS 3 hts (ns_gp (List.forall_mem_cons.mpr ⟨wm240, (List.forall_mem_cons.mpr ⟨wm241, (List.forall_mem_cons.mpr ⟨wm192, (fun _ h9 => nomatch h9)⟩)⟩)⟩) wm233) rfl rfl rfl (by decide +kernel) ⟨Nat.le_of_ble_eq_true rfl, Nat.le_of_ble_eq_true rfl⟩) ⟨fun a U gg mk q => by obtain ⟨q0, q1, qP, qK, qD, qF⟩ := q; exact ⟨q0, q1, qP, va_K.moved (u := U) (U := U.calling gg mk a) (Vm.Alike.refl U.vm) qK, qD, ns_same qF⟩, fun U hU hW => ⟨rfl, by rw [hU], by rw [hU]; exact hPc, va_K.moved hW.alike hKc, hDc.weaken (fun _ _ _ _ => trivial), ns_call hF hS hFc hU hW⟩⟩ rfl rfl hl.1 rfl (lv_room (Nat.le_of_ble_eq_true rfl)) dX16_say_69 ⟨Nat.le_of_ble_eq_true rfl, Nat.le_of_ble_eq_true rfl⟩) hS (fun q _ h => hFc q h) hFc (fun r9 u t H1 locs ht hvm hw hB hz1 hk1 hS => ?_)
  obtain rfl := hw.symm
  obtain ⟨hP1, hK1, hD1⟩ := hB
  rw [ht] at hP1
  have hK1 := va_K.moved hvm.symm hK1
  obtain ⟨hP, hD⟩ := va_join (wr := [(h0, .inr (23, [v0, v1, v2, v3, .ref (g 34), v4, v5, v6, v7])), (q1, .inl (cyq1, 6, .inl (upd (upd (upd (upd (upd (upd (fun _ => 0) 0 x0) 1 x1) 2 x2) 3 x3) 4 x4) 5 x5)))]) (w1 := []) hP hD [] [0, 1] rfl rfl (by decide) (by decide) hk1 hFc hP1 hD1
  have hK := (hK.sub (tys' := [(cyq1, .int)]) [0] rfl).app hK1
  generalize H1 = H at hP hS ⊢
  have hP : va_P (dC, dI) vwCl [(h0, .inr (23, [v0, v1, v2, v3, .ref (g 34), v4, v5, v6, v7])), (q1, .inl (cyq1, 6, .inl (upd (upd (upd (upd (upd (upd (fun _ => 0) 0 x0) 1 x1) 2 x2) 3 x3) 4 x4) 5 x5)))] H := hP
  have hD : va_D A [(h0, .inr (23, [v0, v1, v2, v3, .ref (g 34), v4, v5, v6, v7])), (q1, .inl (cyq1, 6, .inl (upd (upd (upd (upd (upd (upd (fun _ => 0) 0 x0) 1 x1) 2 x2) 3 x3) 4 x4) 5 x5)))] := hD
  have hK : va_K (dC, dI) vwCl [(cyq1, .int)] s := hK
  refine W.widen (k := 1) (n := 6) (Nat.le_of_ble_eq_true rfl) (Nat.le_of_ble_eq_true rfl) ?_
  refine lv_if_ne (tgt := 79) hx hb dX16_say_72 (by decide) (fun c24 => ?_) (fun c24 => absurd c24 (by decide))
  refine lv_iconst (v := 0) hx hb dX16_say_79 (by decide) ?_
  refine lv_ior hx hb dX16_say_80 ?_
  refine lv_topi (fun y25 ey25 => ?_)
  obtain rfl : y25 = 0 := ey25.trans (by decide)
  refine lv_istore (lv' := [(8, .int 0), (12, .int x5), (11, .int 5), (10, .int 6), (9, .ref q1), (7, .ref q1), (0, .ref h0), (1, .int x0), (2, .int x1), (3, .int x2), (4, .int x3), (5, .int x4), (6, .int x5)]) hx hb dX16_say_81 hl (by decide) rfl (fun ls hl => ?_)
  refine lv_iinc (v := 6) (lv' := [(11, .int 6), (8, .int 0), (12, .int x5), (10, .int 6), (9, .ref q1), (7, .ref q1), (0, .ref h0), (1, .int x0), (2, .int x1), (3, .int x2), (4, .int x3), (5, .int x4), (6, .int x5)]) hx hb dX16_say_83 hl (k := 2) rfl (by decide) (by decide) rfl (fun ls hl => ?_)
  refine lv_goto (tgt := 48) hx hb dX16_say_86 (by decide) ?_
  refine lv_iload hx hb dX16_say_48 (lv_at hl 0 rfl) ?_
  refine lv_iload hx hb dX16_say_50 (lv_at hl 3 rfl) ?_
  refine lv_icmp_ge (tgt := 89) hx hb dX16_say_52 (by decide) (fun c26 => ?_) (fun c26 => absurd (by decide) c26)
  refine lv_aload_n hx hb dX16_say_89 rfl (lv_at hl 6 rfl) ?_
  refine lv_iload hx hb dX16_say_90 (lv_at hl 1 rfl) ?_
  refine lv_iconst (v := 1) hx hb dX16_say_92 (by decide) ?_
  have hPc := hP.sub (ws' := [(h0, .inr (23, [v0, v1, v2, v3, .ref (g 34), v4, v5, v6, v7]))]) [0] rfl
  have hDc := hD.sub (ws' := [(h0, .inr (23, [v0, v1, v2, v3, .ref (g 34), v4, v5, v6, v7]))]) [0] (by decide) rfl
  have hKc := hK.sub (tys' := []) [] rfl
  have hFc := va_free (wc := [(h0, .inr (23, [v0, v1, v2, v3, .ref (g 34), v4, v5, v6, v7]))]) hD hS hA [0] rfl
  refine va_calli (va_runV (As := [.int 0, .int 1]) (rest := []) ⟨hx, hb, hml, hown, hts⟩ (kX16_start_2 l dC dI g H.size h0 v0 v1 v2 v3 (.ref (g 34)) v4 v5 v6 v7 ) (cwV 2 hts (ns_gp (List.forall_mem_cons.mpr ⟨wm242, (List.forall_mem_cons.mpr ⟨wm243, (List.forall_mem_cons.mpr ⟨wm244, (List.forall_mem_cons.mpr ⟨wm192, (fun _ h9 => nomatch h9)⟩)⟩)⟩)⟩) wm239) rfl rfl rfl (by decide +kernel) ⟨Nat.le_of_ble_eq_true rfl, Nat.le_of_ble_eq_true rfl⟩) ⟨fun a U gg mk q => by obtain ⟨q0, q1, qP, qK, qD, qF⟩ := q; exact ⟨q0, q1, qP, va_K.moved (u := U) (U := U.calling gg mk a) (Vm.Alike.refl U.vm) qK, qD, ns_same qF⟩, va_recv hK hP (ci := 23) (q0 := 0) rfl rfl, fun U hU hW => ⟨rfl, by rw [hU], by rw [hU]; exact hPc, va_K.moved hW.alike hKc, hDc.weaken (fun _ _ _ _ => trivial), ns_call hF hS hFc hU hW⟩⟩ rfl rfl hl.1 rfl (lv_room (Nat.le_of_ble_eq_true rfl)) dX16_say_93 ⟨Nat.le_of_ble_eq_true rfl, Nat.le_of_ble_eq_true rfl⟩) hS (fun q _ h => hFc q h) hFc (fun r9 u t H1 locs ht hvm hw hB hz1 hk1 hS => ?_)
  obtain rfl := hw.symm
  obtain ⟨hP1, hK1, hD1⟩ := hB
  rw [ht] at hP1
  have hK1 := va_K.moved hvm.symm hK1
  obtain ⟨hP, hD⟩ := va_join (wr := [(q1, .inl (cyq1, 6, .inl (upd (upd (upd (upd (upd (upd (fun _ => 0) 0 x0) 1 x1) 2 x2) 3 x3) 4 x4) 5 x5)))]) (w1 := [(h0, .inr (23, [.int 0, v1, v2, v3, .ref (g 34), v4, v5, v6, v7]))]) hP hD [0] [1] rfl rfl (by decide) (by decide) hk1 hFc hP1 hD1
  have hK := (hK.sub (tys' := [(cyq1, .int)]) [0] rfl).app hK1
  generalize H1 = H at hP hS ⊢
  have hP : va_P (dC, dI) vwCl [(q1, .inl (cyq1, 6, .inl (upd (upd (upd (upd (upd (upd (fun _ => 0) 0 x0) 1 x1) 2 x2) 3 x3) 4 x4) 5 x5))), (h0, .inr (23, [.int 0, v1, v2, v3, .ref (g 34), v4, v5, v6, v7]))] H := hP
  have hD : va_D A [(q1, .inl (cyq1, 6, .inl (upd (upd (upd (upd (upd (upd (fun _ => 0) 0 x0) 1 x1) 2 x2) 3 x3) 4 x4) 5 x5))), (h0, .inr (23, [.int 0, v1, v2, v3, .ref (g 34), v4, v5, v6, v7]))] := hD
  have hK : va_K (dC, dI) vwCl [(cyq1, .int)] s := hK
  refine W.widen (k := 1) (n := 6) (Nat.le_of_ble_eq_true rfl) (Nat.le_of_ble_eq_true rfl) ?_
  refine lv_if_eq (tgt := 101) hx hb dX16_say_96 (by decide) (fun c27 => ?_) (fun c27 => absurd (by decide) c27)
  refine lv_aload_n hx hb dX16_say_101 rfl (lv_at hl 6 rfl) ?_
  refine va_get (D := (dC, dI)) (ci := 23) (v := .ref (g 34)) (C := RX16) (T := TX16) (N := 9) hx hb hta naX16 hown hK hP 1 rfl rfl 4 (by decide) (hta _ wm213) (fun _ h9 => h9) rfl dX16_say_102 ?_
  refine lv_astore (lv' := [(9, .ref (g 34)), (11, .int 6), (8, .int 0), (12, .int x5), (10, .int 6), (7, .ref q1), (0, .ref h0), (1, .int x0), (2, .int x1), (3, .int x2), (4, .int x3), (5, .int x4), (6, .int x5)]) hx hb dX16_say_105 hl (by decide) rfl (fun ls hl => ?_)
  refine lv_aload hx hb dX16_say_107 (lv_at hl 5 rfl) ?_
  refine lv_astore (lv' := [(10, .ref q1), (9, .ref (g 34)), (11, .int 6), (8, .int 0), (12, .int x5), (7, .ref q1), (0, .ref h0), (1, .int x0), (2, .int x1), (3, .int x2), (4, .int x3), (5, .int x4), (6, .int x5)]) hx hb dX16_say_109 hl (by decide) rfl (fun ls hl => ?_)
  refine lv_aload hx hb dX16_say_111 (lv_at hl 0 rfl) ?_
  refine va_alen (v := 6) hx hb hK hP 0 0 rfl rfl (show Int32.ofNat 6 = 6 by decide) dX16_say_113 ?_
  refine lv_istore (lv' := [(11, .int 6), (10, .ref q1), (9, .ref (g 34)), (8, .int 0), (12, .int x5), (7, .ref q1), (0, .ref h0), (1, .int x0), (2, .int x1), (3, .int x2), (4, .int x3), (5, .int x4), (6, .int x5)]) hx hb dX16_say_114 hl (by decide) rfl (fun ls hl => ?_)
  refine lv_iconst (v := 0) hx hb dX16_say_116 (by decide) ?_
  refine lv_istore (lv' := [(12, .int 0), (11, .int 6), (10, .ref q1), (9, .ref (g 34)), (8, .int 0), (7, .ref q1), (0, .ref h0), (1, .int x0), (2, .int x1), (3, .int x2), (4, .int x3), (5, .int x4), (6, .int x5)]) hx hb dX16_say_117 hl (by decide) rfl (fun ls hl => ?_)
  have hP := hP.sub (ws' := [(h0, .inr (23, [.int 0, v1, v2, v3, .ref (g 34), v4, v5, v6, v7])), (q1, .inl (cyq1, 6, .inl (upd (upd (upd (upd (upd (upd (fun _ => 0) 0 x0) 1 x1) 2 x2) 3 x3) 4 x4) 5 x5)))]) [1, 0] rfl
  have hD := hD.sub (ws' := [(h0, .inr (23, [.int 0, v1, v2, v3, .ref (g 34), v4, v5, v6, v7])), (q1, .inl (cyq1, 6, .inl (upd (upd (upd (upd (upd (upd (fun _ => 0) 0 x0) 1 x1) 2 x2) 3 x3) 4 x4) 5 x5)))]) [1, 0] (by decide) rfl
  have hK := hK.sub (tys' := [(cyq1, .int)]) [0] rfl
  have hl := lv_sub hl (l' := [(12, .int 0), (11, .int 6), (10, .ref q1), (9, .ref (g 34)), (0, .ref h0)]) [0, 1, 2, 3, 6] rfl
  refine W.widen (k := 1) (n := 6) (Nat.le_of_ble_eq_true rfl) (Nat.le_of_ble_eq_true rfl) ?_
  refine ns_say_0_0 (E9 := 0) rfl ex0 ex1 ex2 ex3 ex4 ex5 hx hb hml hown hts hA hF hK hP hD hS hl ?_ ?_ ?_ ?_ ?_ ?_ ?_
  · intro H locs ls hE9 hK hP hD hS hl
    refine lv_aload_n hx hb dX16_say_173 rfl (lv_at hl 1 rfl) ?_
    refine lv_aload hx hb dX16_say_174 (lv_at hl 0 rfl) ?_
    refine va_put (D := (dC, dI)) (ci := 23) (v := .ref (g 34)) (ty := .object "java/lang/String") (C := RX16) (T := TX16) (N := 9) hx hb hta naX16 tyX16 tyX16_ok nmX16 hown hK hP hD hS 0 rfl rfl 4 (by decide) (hta _ wm213) (fun _ h9 => h9) rfl (by decide +kernel) rfl rfl (Nat.le_of_ble_eq_true rfl) dX16_say_176 (fun H locs hP hD hS => ?_)
    have hP : va_P (dC, dI) vwCl [(h0, .inr (23, [.int 0, v1, v2, v3, .ref (g 34), v4, v5, v6, v7])), (q1, .inl (cyq1, 6, .inl (upd (upd (upd (upd (upd (upd (fun _ => 0) 0 x0) 1 x1) 2 x2) 3 x3) 4 x4) 5 x5)))] H := hP
    have hD : va_D A [(h0, .inr (23, [.int 0, v1, v2, v3, .ref (g 34), v4, v5, v6, v7])), (q1, .inl (cyq1, 6, .inl (upd (upd (upd (upd (upd (upd (fun _ => 0) 0 x0) 1 x1) 2 x2) 3 x3) 4 x4) 5 x5)))] := hD
    refine lv_aload_n hx hb dX16_say_179 rfl (lv_at hl 1 rfl) ?_
    refine va_get (D := (dC, dI)) (ci := 23) (v := .ref (g 34)) (C := RX16) (T := TX16) (N := 9) hx hb hta naX16 hown hK hP 0 rfl rfl 4 (by decide) (hta _ wm213) (fun _ h9 => h9) rfl dX16_say_180 ?_
    have hPc := hP.sub (ws' := []) [] rfl
    have hDc := hD.sub (ws' := []) [] (by decide) rfl
    have hKc := hK.sub (tys' := []) [] rfl
    have hFc := va_free (wc := []) hD hS hA [] rfl
    refine va_calli (va_runV (As := []) (rest := []) ⟨hx, hb, hml, hown, hts⟩ (kJ0_length_8abf5_2 l dC dI g H.size  ) (cwV 0 hts (ns_gp (List.forall_mem_cons.mpr ⟨wm646, (List.forall_mem_cons.mpr ⟨wm595, (List.forall_mem_cons.mpr ⟨wm596, (List.forall_mem_cons.mpr ⟨wm316, (fun _ h9 => nomatch h9)⟩)⟩)⟩)⟩) wm574) rfl rfl rfl (by decide +kernel) ⟨Nat.le_of_ble_eq_true rfl, Nat.le_of_ble_eq_true rfl⟩) ⟨fun a U gg mk q => by obtain ⟨q0, q1, qP, qK, qD, qF⟩ := q; exact ⟨q0, q1, qP, va_K.moved (u := U) (U := U.calling gg mk a) (Vm.Alike.refl U.vm) qK, qD, ns_same qF⟩, va_Orecv (ns_f38 hF) hS, fun U hU hW => ⟨rfl, by rw [hU], by rw [hU]; exact hPc, va_K.moved hW.alike hKc, hDc.weaken (fun _ _ _ _ => trivial), ns_call hF hS hFc hU hW⟩⟩ rfl rfl hl.1 rfl (lv_room (Nat.le_of_ble_eq_true rfl)) dX16_say_183 ⟨Nat.le_of_ble_eq_true rfl, Nat.le_of_ble_eq_true rfl⟩) hS (fun q _ h => hFc q h) hFc (fun r9 u t H1 locs ht hvm hw hB hz1 hk1 hS => ?_)
    obtain rfl := hw.symm
    obtain ⟨hP1, hK1, hD1⟩ := hB
    rw [ht] at hP1
    have hK1 := va_K.moved hvm.symm hK1
    obtain ⟨hP, hD⟩ := va_join (wr := [(h0, .inr (23, [.int 0, v1, v2, v3, .ref (g 34), v4, v5, v6, v7])), (q1, .inl (cyq1, 6, .inl (upd (upd (upd (upd (upd (upd (fun _ => 0) 0 x0) 1 x1) 2 x2) 3 x3) 4 x4) 5 x5)))]) (w1 := []) hP hD [] [0, 1] rfl rfl (by decide) (by decide) hk1 hFc hP1 hD1
    have hK := (hK.sub (tys' := [(cyq1, .int)]) [0] rfl).app hK1
    generalize H1 = H at hP hS ⊢
    have hP : va_P (dC, dI) vwCl [(h0, .inr (23, [.int 0, v1, v2, v3, .ref (g 34), v4, v5, v6, v7])), (q1, .inl (cyq1, 6, .inl (upd (upd (upd (upd (upd (upd (fun _ => 0) 0 x0) 1 x1) 2 x2) 3 x3) 4 x4) 5 x5)))] H := hP
    have hD : va_D A [(h0, .inr (23, [.int 0, v1, v2, v3, .ref (g 34), v4, v5, v6, v7])), (q1, .inl (cyq1, 6, .inl (upd (upd (upd (upd (upd (upd (fun _ => 0) 0 x0) 1 x1) 2 x2) 3 x3) 4 x4) 5 x5)))] := hD
    have hK : va_K (dC, dI) vwCl [(cyq1, .int)] s := hK
    refine W.widen (k := 37) (n := 246) (Nat.le_of_ble_eq_true rfl) (Nat.le_of_ble_eq_true rfl) ?_
    have hP9 := hP.sub (ws' := [(h0, .inr (23, [.int 0, v1, v2, v3, .ref (g 34), v4, v5, v6, v7]))]) [0] rfl
    have hD9 := hD.sub (ws' := [(h0, .inr (23, [.int 0, v1, v2, v3, .ref (g 34), v4, v5, v6, v7]))]) [0] (by decide) rfl
    have hK9 := hK.sub (tys' := []) [] rfl
    refine W.widen (k := 37) (n := 246) (Nat.le_of_ble_eq_true rfl) (Nat.le_of_ble_eq_true rfl) ?_
    have hz9 : 0 = (ns_len (ns_len (ns_len (ns_len (ns_len (ns_len 0 x0) x1) x2) x3) x4) x5) := hE9.symm
    exact W.iret (v := 0) hx hb hr (fun t ht hW => ⟨⟨_, (), rfl, hz9, (g 34), by rw [ht]; exact hP9, va_K.moved hW.alike hK9, hD9⟩, hS.F ht⟩) hS.2.2 dX16_say_186
  · intro t9 b9 cb9 fb9 hb9 H locs ls hE9 hK hP hD hS hl
    refine lv_aload_n hx hb dX16_say_173 rfl (lv_at hl 1 rfl) ?_
    refine lv_aload hx hb dX16_say_174 (lv_at hl 0 rfl) ?_
    refine va_put (D := (dC, dI)) (ci := 23) (v := .ref t9) (ty := .object "java/lang/String") (C := RX16) (T := TX16) (N := 9) hx hb hta naX16 tyX16 tyX16_ok nmX16 hown hK hP hD hS 0 rfl rfl 4 (by decide) (hta _ wm213) (fun _ h9 => h9) rfl (by decide +kernel) rfl rfl (Nat.le_of_ble_eq_true rfl) dX16_say_176 (fun H locs hP hD hS => ?_)
    have hP : va_P (dC, dI) vwCl [(h0, .inr (23, [.int 0, v1, v2, v3, .ref t9, v4, v5, v6, v7])), (q1, .inl (cyq1, 6, .inl (upd (upd (upd (upd (upd (upd (fun _ => 0) 0 x0) 1 x1) 2 x2) 3 x3) 4 x4) 5 x5))), (t9, .inr (0, [.ref b9, .int 0, .int 0, .int 0])), (b9, .inl (cb9, 1, .inl fb9))] H := hP
    have hD : va_D A [(h0, .inr (23, [.int 0, v1, v2, v3, .ref t9, v4, v5, v6, v7])), (q1, .inl (cyq1, 6, .inl (upd (upd (upd (upd (upd (upd (fun _ => 0) 0 x0) 1 x1) 2 x2) 3 x3) 4 x4) 5 x5))), (t9, .inr (0, [.ref b9, .int 0, .int 0, .int 0])), (b9, .inl (cb9, 1, .inl fb9))] := hD
    refine lv_aload_n hx hb dX16_say_179 rfl (lv_at hl 1 rfl) ?_
    refine va_get (D := (dC, dI)) (ci := 23) (v := .ref t9) (C := RX16) (T := TX16) (N := 9) hx hb hta naX16 hown hK hP 0 rfl rfl 4 (by decide) (hta _ wm213) (fun _ h9 => h9) rfl dX16_say_180 ?_
    have hPc := hP.sub (ws' := [(t9, .inr (0, [.ref b9, .int 0, .int 0, .int 0])), (b9, .inl (cb9, 1, .inl fb9))]) [2, 3] rfl
    have hDc := hD.sub (ws' := [(t9, .inr (0, [.ref b9, .int 0, .int 0, .int 0])), (b9, .inl (cb9, 1, .inl fb9))]) [2, 3] (by decide) rfl
    have hKc := hK.sub (tys' := [(cb9, .byte)]) [1] rfl
    have hFc := va_free (wc := [(t9, .inr (0, [.ref b9, .int 0, .int 0, .int 0])), (b9, .inl (cb9, 1, .inl fb9))]) hD hS hA [2, 3] rfl
    refine va_calli (va_runV (As := []) (rest := []) ⟨hx, hb, hml, hown, hts⟩ (kJ0_length_8abf5_3 l dC dI g H.size t9 b9 (.int 0) (.int 0) cb9 fb9 hb9 ) (cwV 0 hts (ns_gp (List.forall_mem_cons.mpr ⟨wm646, (List.forall_mem_cons.mpr ⟨wm595, (List.forall_mem_cons.mpr ⟨wm596, (List.forall_mem_cons.mpr ⟨wm316, (fun _ h9 => nomatch h9)⟩)⟩)⟩)⟩) wm574) rfl rfl rfl (by decide +kernel) ⟨Nat.le_of_ble_eq_true rfl, Nat.le_of_ble_eq_true rfl⟩) ⟨fun a U gg mk q => by obtain ⟨q0, q1, qP, qK, qD, qF⟩ := q; exact ⟨q0, q1, qP, va_K.moved (u := U) (U := U.calling gg mk a) (Vm.Alike.refl U.vm) qK, qD, ns_same qF⟩, va_recv hK hP (ci := 0) (q0 := 2) rfl rfl, fun U hU hW => ⟨rfl, by rw [hU], by rw [hU]; exact hPc, va_K.moved hW.alike hKc, hDc.weaken (fun _ _ _ _ => trivial), ns_call hF hS hFc hU hW⟩⟩ rfl rfl hl.1 rfl (lv_room (Nat.le_of_ble_eq_true rfl)) dX16_say_183 ⟨Nat.le_of_ble_eq_true rfl, Nat.le_of_ble_eq_true rfl⟩) hS (fun q _ h => hFc q h) hFc (fun r9 u t H1 locs ht hvm hw hB hz1 hk1 hS => ?_)
    obtain rfl := hw.symm
    obtain ⟨hP1, hK1, hD1⟩ := hB
    rw [ht] at hP1
    have hK1 := va_K.moved hvm.symm hK1
    obtain ⟨hP, hD⟩ := va_join (wr := [(h0, .inr (23, [.int 0, v1, v2, v3, .ref t9, v4, v5, v6, v7])), (q1, .inl (cyq1, 6, .inl (upd (upd (upd (upd (upd (upd (fun _ => 0) 0 x0) 1 x1) 2 x2) 3 x3) 4 x4) 5 x5)))]) (w1 := [(b9, .inl (cb9, 1, .inl fb9)), (t9, .inr (0, [.ref b9, .int 0, .int 0, .int 0]))]) hP hD [2, 3] [0, 1] rfl rfl (by decide) (by decide) hk1 hFc hP1 hD1
    have hK := (hK.sub (tys' := [(cyq1, .int)]) [0] rfl).app hK1
    generalize H1 = H at hP hS ⊢
    have hP : va_P (dC, dI) vwCl [(h0, .inr (23, [.int 0, v1, v2, v3, .ref t9, v4, v5, v6, v7])), (q1, .inl (cyq1, 6, .inl (upd (upd (upd (upd (upd (upd (fun _ => 0) 0 x0) 1 x1) 2 x2) 3 x3) 4 x4) 5 x5))), (b9, .inl (cb9, 1, .inl fb9)), (t9, .inr (0, [.ref b9, .int 0, .int 0, .int 0]))] H := hP
    have hD : va_D A [(h0, .inr (23, [.int 0, v1, v2, v3, .ref t9, v4, v5, v6, v7])), (q1, .inl (cyq1, 6, .inl (upd (upd (upd (upd (upd (upd (fun _ => 0) 0 x0) 1 x1) 2 x2) 3 x3) 4 x4) 5 x5))), (b9, .inl (cb9, 1, .inl fb9)), (t9, .inr (0, [.ref b9, .int 0, .int 0, .int 0]))] := hD
    have hK : va_K (dC, dI) vwCl [(cyq1, .int), (cb9, .byte)] s := hK
    refine W.widen (k := 37) (n := 246) (Nat.le_of_ble_eq_true rfl) (Nat.le_of_ble_eq_true rfl) ?_
    have hP9 := hP.sub (ws' := [(h0, .inr (23, [.int 0, v1, v2, v3, .ref t9, v4, v5, v6, v7]))]) [0] rfl
    have hD9 := hD.sub (ws' := [(h0, .inr (23, [.int 0, v1, v2, v3, .ref t9, v4, v5, v6, v7]))]) [0] (by decide) rfl
    have hK9 := hK.sub (tys' := []) [] rfl
    refine W.widen (k := 37) (n := 246) (Nat.le_of_ble_eq_true rfl) (Nat.le_of_ble_eq_true rfl) ?_
    have hz9 : 1 = (ns_len (ns_len (ns_len (ns_len (ns_len (ns_len 0 x0) x1) x2) x3) x4) x5) := hE9.symm
    exact W.iret (v := 1) hx hb hr (fun t ht hW => ⟨⟨_, (), rfl, hz9, t9, by rw [ht]; exact hP9, va_K.moved hW.alike hK9, hD9⟩, hS.F ht⟩) hS.2.2 dX16_say_186
  · intro t9 b9 cb9 fb9 hb9 H locs ls hE9 hK hP hD hS hl
    refine lv_aload_n hx hb dX16_say_173 rfl (lv_at hl 1 rfl) ?_
    refine lv_aload hx hb dX16_say_174 (lv_at hl 0 rfl) ?_
    refine va_put (D := (dC, dI)) (ci := 23) (v := .ref t9) (ty := .object "java/lang/String") (C := RX16) (T := TX16) (N := 9) hx hb hta naX16 tyX16 tyX16_ok nmX16 hown hK hP hD hS 0 rfl rfl 4 (by decide) (hta _ wm213) (fun _ h9 => h9) rfl (by decide +kernel) rfl rfl (Nat.le_of_ble_eq_true rfl) dX16_say_176 (fun H locs hP hD hS => ?_)
    have hP : va_P (dC, dI) vwCl [(h0, .inr (23, [.int 0, v1, v2, v3, .ref t9, v4, v5, v6, v7])), (q1, .inl (cyq1, 6, .inl (upd (upd (upd (upd (upd (upd (fun _ => 0) 0 x0) 1 x1) 2 x2) 3 x3) 4 x4) 5 x5))), (t9, .inr (0, [.ref b9, .int 0, .int 0, .int 0])), (b9, .inl (cb9, 2, .inl fb9))] H := hP
    have hD : va_D A [(h0, .inr (23, [.int 0, v1, v2, v3, .ref t9, v4, v5, v6, v7])), (q1, .inl (cyq1, 6, .inl (upd (upd (upd (upd (upd (upd (fun _ => 0) 0 x0) 1 x1) 2 x2) 3 x3) 4 x4) 5 x5))), (t9, .inr (0, [.ref b9, .int 0, .int 0, .int 0])), (b9, .inl (cb9, 2, .inl fb9))] := hD
    refine lv_aload_n hx hb dX16_say_179 rfl (lv_at hl 1 rfl) ?_
    refine va_get (D := (dC, dI)) (ci := 23) (v := .ref t9) (C := RX16) (T := TX16) (N := 9) hx hb hta naX16 hown hK hP 0 rfl rfl 4 (by decide) (hta _ wm213) (fun _ h9 => h9) rfl dX16_say_180 ?_
    have hPc := hP.sub (ws' := [(t9, .inr (0, [.ref b9, .int 0, .int 0, .int 0])), (b9, .inl (cb9, 2, .inl fb9))]) [2, 3] rfl
    have hDc := hD.sub (ws' := [(t9, .inr (0, [.ref b9, .int 0, .int 0, .int 0])), (b9, .inl (cb9, 2, .inl fb9))]) [2, 3] (by decide) rfl
    have hKc := hK.sub (tys' := [(cb9, .byte)]) [1] rfl
    have hFc := va_free (wc := [(t9, .inr (0, [.ref b9, .int 0, .int 0, .int 0])), (b9, .inl (cb9, 2, .inl fb9))]) hD hS hA [2, 3] rfl
    refine va_calli (va_runV (As := []) (rest := []) ⟨hx, hb, hml, hown, hts⟩ (kJ0_length_8abf5_4 l dC dI g H.size t9 b9 (.int 0) (.int 0) cb9 fb9 hb9 ) (cwV 0 hts (ns_gp (List.forall_mem_cons.mpr ⟨wm646, (List.forall_mem_cons.mpr ⟨wm595, (List.forall_mem_cons.mpr ⟨wm596, (List.forall_mem_cons.mpr ⟨wm316, (fun _ h9 => nomatch h9)⟩)⟩)⟩)⟩) wm574) rfl rfl rfl (by decide +kernel) ⟨Nat.le_of_ble_eq_true rfl, Nat.le_of_ble_eq_true rfl⟩) ⟨fun a U gg mk q => by obtain ⟨q0, q1, qP, qK, qD, qF⟩ := q; exact ⟨q0, q1, qP, va_K.moved (u := U) (U := U.calling gg mk a) (Vm.Alike.refl U.vm) qK, qD, ns_same qF⟩, va_recv hK hP (ci := 0) (q0 := 2) rfl rfl, fun U hU hW => ⟨rfl, by rw [hU], by rw [hU]; exact hPc, va_K.moved hW.alike hKc, hDc.weaken (fun _ _ _ _ => trivial), ns_call hF hS hFc hU hW⟩⟩ rfl rfl hl.1 rfl (lv_room (Nat.le_of_ble_eq_true rfl)) dX16_say_183 ⟨Nat.le_of_ble_eq_true rfl, Nat.le_of_ble_eq_true rfl⟩) hS (fun q _ h => hFc q h) hFc (fun r9 u t H1 locs ht hvm hw hB hz1 hk1 hS => ?_)
    obtain rfl := hw.symm
    obtain ⟨hP1, hK1, hD1⟩ := hB
    rw [ht] at hP1
    have hK1 := va_K.moved hvm.symm hK1
    obtain ⟨hP, hD⟩ := va_join (wr := [(h0, .inr (23, [.int 0, v1, v2, v3, .ref t9, v4, v5, v6, v7])), (q1, .inl (cyq1, 6, .inl (upd (upd (upd (upd (upd (upd (fun _ => 0) 0 x0) 1 x1) 2 x2) 3 x3) 4 x4) 5 x5)))]) (w1 := [(b9, .inl (cb9, 2, .inl fb9)), (t9, .inr (0, [.ref b9, .int 0, .int 0, .int 0]))]) hP hD [2, 3] [0, 1] rfl rfl (by decide) (by decide) hk1 hFc hP1 hD1
    have hK := (hK.sub (tys' := [(cyq1, .int)]) [0] rfl).app hK1
    generalize H1 = H at hP hS ⊢
    have hP : va_P (dC, dI) vwCl [(h0, .inr (23, [.int 0, v1, v2, v3, .ref t9, v4, v5, v6, v7])), (q1, .inl (cyq1, 6, .inl (upd (upd (upd (upd (upd (upd (fun _ => 0) 0 x0) 1 x1) 2 x2) 3 x3) 4 x4) 5 x5))), (b9, .inl (cb9, 2, .inl fb9)), (t9, .inr (0, [.ref b9, .int 0, .int 0, .int 0]))] H := hP
    have hD : va_D A [(h0, .inr (23, [.int 0, v1, v2, v3, .ref t9, v4, v5, v6, v7])), (q1, .inl (cyq1, 6, .inl (upd (upd (upd (upd (upd (upd (fun _ => 0) 0 x0) 1 x1) 2 x2) 3 x3) 4 x4) 5 x5))), (b9, .inl (cb9, 2, .inl fb9)), (t9, .inr (0, [.ref b9, .int 0, .int 0, .int 0]))] := hD
    have hK : va_K (dC, dI) vwCl [(cyq1, .int), (cb9, .byte)] s := hK
    refine W.widen (k := 37) (n := 246) (Nat.le_of_ble_eq_true rfl) (Nat.le_of_ble_eq_true rfl) ?_
    have hP9 := hP.sub (ws' := [(h0, .inr (23, [.int 0, v1, v2, v3, .ref t9, v4, v5, v6, v7]))]) [0] rfl
    have hD9 := hD.sub (ws' := [(h0, .inr (23, [.int 0, v1, v2, v3, .ref t9, v4, v5, v6, v7]))]) [0] (by decide) rfl
    have hK9 := hK.sub (tys' := []) [] rfl
    refine W.widen (k := 37) (n := 246) (Nat.le_of_ble_eq_true rfl) (Nat.le_of_ble_eq_true rfl) ?_
    have hz9 : 2 = (ns_len (ns_len (ns_len (ns_len (ns_len (ns_len 0 x0) x1) x2) x3) x4) x5) := hE9.symm
    exact W.iret (v := 2) hx hb hr (fun t ht hW => ⟨⟨_, (), rfl, hz9, t9, by rw [ht]; exact hP9, va_K.moved hW.alike hK9, hD9⟩, hS.F ht⟩) hS.2.2 dX16_say_186
  · intro t9 b9 cb9 fb9 hb9 H locs ls hE9 hK hP hD hS hl
    refine lv_aload_n hx hb dX16_say_173 rfl (lv_at hl 1 rfl) ?_
    refine lv_aload hx hb dX16_say_174 (lv_at hl 0 rfl) ?_
    refine va_put (D := (dC, dI)) (ci := 23) (v := .ref t9) (ty := .object "java/lang/String") (C := RX16) (T := TX16) (N := 9) hx hb hta naX16 tyX16 tyX16_ok nmX16 hown hK hP hD hS 0 rfl rfl 4 (by decide) (hta _ wm213) (fun _ h9 => h9) rfl (by decide +kernel) rfl rfl (Nat.le_of_ble_eq_true rfl) dX16_say_176 (fun H locs hP hD hS => ?_)
    have hP : va_P (dC, dI) vwCl [(h0, .inr (23, [.int 0, v1, v2, v3, .ref t9, v4, v5, v6, v7])), (q1, .inl (cyq1, 6, .inl (upd (upd (upd (upd (upd (upd (fun _ => 0) 0 x0) 1 x1) 2 x2) 3 x3) 4 x4) 5 x5))), (t9, .inr (0, [.ref b9, .int 0, .int 0, .int 0])), (b9, .inl (cb9, 3, .inl fb9))] H := hP
    have hD : va_D A [(h0, .inr (23, [.int 0, v1, v2, v3, .ref t9, v4, v5, v6, v7])), (q1, .inl (cyq1, 6, .inl (upd (upd (upd (upd (upd (upd (fun _ => 0) 0 x0) 1 x1) 2 x2) 3 x3) 4 x4) 5 x5))), (t9, .inr (0, [.ref b9, .int 0, .int 0, .int 0])), (b9, .inl (cb9, 3, .inl fb9))] := hD
    refine lv_aload_n hx hb dX16_say_179 rfl (lv_at hl 1 rfl) ?_
    refine va_get (D := (dC, dI)) (ci := 23) (v := .ref t9) (C := RX16) (T := TX16) (N := 9) hx hb hta naX16 hown hK hP 0 rfl rfl 4 (by decide) (hta _ wm213) (fun _ h9 => h9) rfl dX16_say_180 ?_
    have hPc := hP.sub (ws' := [(t9, .inr (0, [.ref b9, .int 0, .int 0, .int 0])), (b9, .inl (cb9, 3, .inl fb9))]) [2, 3] rfl
    have hDc := hD.sub (ws' := [(t9, .inr (0, [.ref b9, .int 0, .int 0, .int 0])), (b9, .inl (cb9, 3, .inl fb9))]) [2, 3] (by decide) rfl
    have hKc := hK.sub (tys' := [(cb9, .byte)]) [1] rfl
    have hFc := va_free (wc := [(t9, .inr (0, [.ref b9, .int 0, .int 0, .int 0])), (b9, .inl (cb9, 3, .inl fb9))]) hD hS hA [2, 3] rfl
    refine va_calli (va_runV (As := []) (rest := []) ⟨hx, hb, hml, hown, hts⟩ (kJ0_length_8abf5_5 l dC dI g H.size t9 b9 (.int 0) (.int 0) cb9 fb9 hb9 ) (cwV 0 hts (ns_gp (List.forall_mem_cons.mpr ⟨wm646, (List.forall_mem_cons.mpr ⟨wm595, (List.forall_mem_cons.mpr ⟨wm596, (List.forall_mem_cons.mpr ⟨wm316, (fun _ h9 => nomatch h9)⟩)⟩)⟩)⟩) wm574) rfl rfl rfl (by decide +kernel) ⟨Nat.le_of_ble_eq_true rfl, Nat.le_of_ble_eq_true rfl⟩) ⟨fun a U gg mk q => by obtain ⟨q0, q1, qP, qK, qD, qF⟩ := q; exact ⟨q0, q1, qP, va_K.moved (u := U) (U := U.calling gg mk a) (Vm.Alike.refl U.vm) qK, qD, ns_same qF⟩, va_recv hK hP (ci := 0) (q0 := 2) rfl rfl, fun U hU hW => ⟨rfl, by rw [hU], by rw [hU]; exact hPc, va_K.moved hW.alike hKc, hDc.weaken (fun _ _ _ _ => trivial), ns_call hF hS hFc hU hW⟩⟩ rfl rfl hl.1 rfl (lv_room (Nat.le_of_ble_eq_true rfl)) dX16_say_183 ⟨Nat.le_of_ble_eq_true rfl, Nat.le_of_ble_eq_true rfl⟩) hS (fun q _ h => hFc q h) hFc (fun r9 u t H1 locs ht hvm hw hB hz1 hk1 hS => ?_)
    obtain rfl := hw.symm
    obtain ⟨hP1, hK1, hD1⟩ := hB
    rw [ht] at hP1
    have hK1 := va_K.moved hvm.symm hK1
    obtain ⟨hP, hD⟩ := va_join (wr := [(h0, .inr (23, [.int 0, v1, v2, v3, .ref t9, v4, v5, v6, v7])), (q1, .inl (cyq1, 6, .inl (upd (upd (upd (upd (upd (upd (fun _ => 0) 0 x0) 1 x1) 2 x2) 3 x3) 4 x4) 5 x5)))]) (w1 := [(b9, .inl (cb9, 3, .inl fb9)), (t9, .inr (0, [.ref b9, .int 0, .int 0, .int 0]))]) hP hD [2, 3] [0, 1] rfl rfl (by decide) (by decide) hk1 hFc hP1 hD1
    have hK := (hK.sub (tys' := [(cyq1, .int)]) [0] rfl).app hK1
    generalize H1 = H at hP hS ⊢
    have hP : va_P (dC, dI) vwCl [(h0, .inr (23, [.int 0, v1, v2, v3, .ref t9, v4, v5, v6, v7])), (q1, .inl (cyq1, 6, .inl (upd (upd (upd (upd (upd (upd (fun _ => 0) 0 x0) 1 x1) 2 x2) 3 x3) 4 x4) 5 x5))), (b9, .inl (cb9, 3, .inl fb9)), (t9, .inr (0, [.ref b9, .int 0, .int 0, .int 0]))] H := hP
    have hD : va_D A [(h0, .inr (23, [.int 0, v1, v2, v3, .ref t9, v4, v5, v6, v7])), (q1, .inl (cyq1, 6, .inl (upd (upd (upd (upd (upd (upd (fun _ => 0) 0 x0) 1 x1) 2 x2) 3 x3) 4 x4) 5 x5))), (b9, .inl (cb9, 3, .inl fb9)), (t9, .inr (0, [.ref b9, .int 0, .int 0, .int 0]))] := hD
    have hK : va_K (dC, dI) vwCl [(cyq1, .int), (cb9, .byte)] s := hK
    refine W.widen (k := 37) (n := 246) (Nat.le_of_ble_eq_true rfl) (Nat.le_of_ble_eq_true rfl) ?_
    have hP9 := hP.sub (ws' := [(h0, .inr (23, [.int 0, v1, v2, v3, .ref t9, v4, v5, v6, v7]))]) [0] rfl
    have hD9 := hD.sub (ws' := [(h0, .inr (23, [.int 0, v1, v2, v3, .ref t9, v4, v5, v6, v7]))]) [0] (by decide) rfl
    have hK9 := hK.sub (tys' := []) [] rfl
    refine W.widen (k := 37) (n := 246) (Nat.le_of_ble_eq_true rfl) (Nat.le_of_ble_eq_true rfl) ?_
    have hz9 : 3 = (ns_len (ns_len (ns_len (ns_len (ns_len (ns_len 0 x0) x1) x2) x3) x4) x5) := hE9.symm
    exact W.iret (v := 3) hx hb hr (fun t ht hW => ⟨⟨_, (), rfl, hz9, t9, by rw [ht]; exact hP9, va_K.moved hW.alike hK9, hD9⟩, hS.F ht⟩) hS.2.2 dX16_say_186
  · intro t9 b9 cb9 fb9 hb9 H locs ls hE9 hK hP hD hS hl
    refine lv_aload_n hx hb dX16_say_173 rfl (lv_at hl 1 rfl) ?_
    refine lv_aload hx hb dX16_say_174 (lv_at hl 0 rfl) ?_
    refine va_put (D := (dC, dI)) (ci := 23) (v := .ref t9) (ty := .object "java/lang/String") (C := RX16) (T := TX16) (N := 9) hx hb hta naX16 tyX16 tyX16_ok nmX16 hown hK hP hD hS 0 rfl rfl 4 (by decide) (hta _ wm213) (fun _ h9 => h9) rfl (by decide +kernel) rfl rfl (Nat.le_of_ble_eq_true rfl) dX16_say_176 (fun H locs hP hD hS => ?_)
    have hP : va_P (dC, dI) vwCl [(h0, .inr (23, [.int 0, v1, v2, v3, .ref t9, v4, v5, v6, v7])), (q1, .inl (cyq1, 6, .inl (upd (upd (upd (upd (upd (upd (fun _ => 0) 0 x0) 1 x1) 2 x2) 3 x3) 4 x4) 5 x5))), (t9, .inr (0, [.ref b9, .int 0, .int 0, .int 0])), (b9, .inl (cb9, 4, .inl fb9))] H := hP
    have hD : va_D A [(h0, .inr (23, [.int 0, v1, v2, v3, .ref t9, v4, v5, v6, v7])), (q1, .inl (cyq1, 6, .inl (upd (upd (upd (upd (upd (upd (fun _ => 0) 0 x0) 1 x1) 2 x2) 3 x3) 4 x4) 5 x5))), (t9, .inr (0, [.ref b9, .int 0, .int 0, .int 0])), (b9, .inl (cb9, 4, .inl fb9))] := hD
    refine lv_aload_n hx hb dX16_say_179 rfl (lv_at hl 1 rfl) ?_
    refine va_get (D := (dC, dI)) (ci := 23) (v := .ref t9) (C := RX16) (T := TX16) (N := 9) hx hb hta naX16 hown hK hP 0 rfl rfl 4 (by decide) (hta _ wm213) (fun _ h9 => h9) rfl dX16_say_180 ?_
    have hPc := hP.sub (ws' := [(t9, .inr (0, [.ref b9, .int 0, .int 0, .int 0])), (b9, .inl (cb9, 4, .inl fb9))]) [2, 3] rfl
    have hDc := hD.sub (ws' := [(t9, .inr (0, [.ref b9, .int 0, .int 0, .int 0])), (b9, .inl (cb9, 4, .inl fb9))]) [2, 3] (by decide) rfl
    have hKc := hK.sub (tys' := [(cb9, .byte)]) [1] rfl
    have hFc := va_free (wc := [(t9, .inr (0, [.ref b9, .int 0, .int 0, .int 0])), (b9, .inl (cb9, 4, .inl fb9))]) hD hS hA [2, 3] rfl
    refine va_calli (va_runV (As := []) (rest := []) ⟨hx, hb, hml, hown, hts⟩ (kJ0_length_8abf5_6 l dC dI g H.size t9 b9 (.int 0) (.int 0) cb9 fb9 hb9 ) (cwV 0 hts (ns_gp (List.forall_mem_cons.mpr ⟨wm646, (List.forall_mem_cons.mpr ⟨wm595, (List.forall_mem_cons.mpr ⟨wm596, (List.forall_mem_cons.mpr ⟨wm316, (fun _ h9 => nomatch h9)⟩)⟩)⟩)⟩) wm574) rfl rfl rfl (by decide +kernel) ⟨Nat.le_of_ble_eq_true rfl, Nat.le_of_ble_eq_true rfl⟩) ⟨fun a U gg mk q => by obtain ⟨q0, q1, qP, qK, qD, qF⟩ := q; exact ⟨q0, q1, qP, va_K.moved (u := U) (U := U.calling gg mk a) (Vm.Alike.refl U.vm) qK, qD, ns_same qF⟩, va_recv hK hP (ci := 0) (q0 := 2) rfl rfl, fun U hU hW => ⟨rfl, by rw [hU], by rw [hU]; exact hPc, va_K.moved hW.alike hKc, hDc.weaken (fun _ _ _ _ => trivial), ns_call hF hS hFc hU hW⟩⟩ rfl rfl hl.1 rfl (lv_room (Nat.le_of_ble_eq_true rfl)) dX16_say_183 ⟨Nat.le_of_ble_eq_true rfl, Nat.le_of_ble_eq_true rfl⟩) hS (fun q _ h => hFc q h) hFc (fun r9 u t H1 locs ht hvm hw hB hz1 hk1 hS => ?_)
    obtain rfl := hw.symm
    obtain ⟨hP1, hK1, hD1⟩ := hB
    rw [ht] at hP1
    have hK1 := va_K.moved hvm.symm hK1
    obtain ⟨hP, hD⟩ := va_join (wr := [(h0, .inr (23, [.int 0, v1, v2, v3, .ref t9, v4, v5, v6, v7])), (q1, .inl (cyq1, 6, .inl (upd (upd (upd (upd (upd (upd (fun _ => 0) 0 x0) 1 x1) 2 x2) 3 x3) 4 x4) 5 x5)))]) (w1 := [(b9, .inl (cb9, 4, .inl fb9)), (t9, .inr (0, [.ref b9, .int 0, .int 0, .int 0]))]) hP hD [2, 3] [0, 1] rfl rfl (by decide) (by decide) hk1 hFc hP1 hD1
    have hK := (hK.sub (tys' := [(cyq1, .int)]) [0] rfl).app hK1
    generalize H1 = H at hP hS ⊢
    have hP : va_P (dC, dI) vwCl [(h0, .inr (23, [.int 0, v1, v2, v3, .ref t9, v4, v5, v6, v7])), (q1, .inl (cyq1, 6, .inl (upd (upd (upd (upd (upd (upd (fun _ => 0) 0 x0) 1 x1) 2 x2) 3 x3) 4 x4) 5 x5))), (b9, .inl (cb9, 4, .inl fb9)), (t9, .inr (0, [.ref b9, .int 0, .int 0, .int 0]))] H := hP
    have hD : va_D A [(h0, .inr (23, [.int 0, v1, v2, v3, .ref t9, v4, v5, v6, v7])), (q1, .inl (cyq1, 6, .inl (upd (upd (upd (upd (upd (upd (fun _ => 0) 0 x0) 1 x1) 2 x2) 3 x3) 4 x4) 5 x5))), (b9, .inl (cb9, 4, .inl fb9)), (t9, .inr (0, [.ref b9, .int 0, .int 0, .int 0]))] := hD
    have hK : va_K (dC, dI) vwCl [(cyq1, .int), (cb9, .byte)] s := hK
    refine W.widen (k := 37) (n := 246) (Nat.le_of_ble_eq_true rfl) (Nat.le_of_ble_eq_true rfl) ?_
    have hP9 := hP.sub (ws' := [(h0, .inr (23, [.int 0, v1, v2, v3, .ref t9, v4, v5, v6, v7]))]) [0] rfl
    have hD9 := hD.sub (ws' := [(h0, .inr (23, [.int 0, v1, v2, v3, .ref t9, v4, v5, v6, v7]))]) [0] (by decide) rfl
    have hK9 := hK.sub (tys' := []) [] rfl
    refine W.widen (k := 37) (n := 246) (Nat.le_of_ble_eq_true rfl) (Nat.le_of_ble_eq_true rfl) ?_
    have hz9 : 4 = (ns_len (ns_len (ns_len (ns_len (ns_len (ns_len 0 x0) x1) x2) x3) x4) x5) := hE9.symm
    exact W.iret (v := 4) hx hb hr (fun t ht hW => ⟨⟨_, (), rfl, hz9, t9, by rw [ht]; exact hP9, va_K.moved hW.alike hK9, hD9⟩, hS.F ht⟩) hS.2.2 dX16_say_186
  · intro t9 b9 cb9 fb9 hb9 H locs ls hE9 hK hP hD hS hl
    refine lv_aload_n hx hb dX16_say_173 rfl (lv_at hl 1 rfl) ?_
    refine lv_aload hx hb dX16_say_174 (lv_at hl 0 rfl) ?_
    refine va_put (D := (dC, dI)) (ci := 23) (v := .ref t9) (ty := .object "java/lang/String") (C := RX16) (T := TX16) (N := 9) hx hb hta naX16 tyX16 tyX16_ok nmX16 hown hK hP hD hS 0 rfl rfl 4 (by decide) (hta _ wm213) (fun _ h9 => h9) rfl (by decide +kernel) rfl rfl (Nat.le_of_ble_eq_true rfl) dX16_say_176 (fun H locs hP hD hS => ?_)
    have hP : va_P (dC, dI) vwCl [(h0, .inr (23, [.int 0, v1, v2, v3, .ref t9, v4, v5, v6, v7])), (q1, .inl (cyq1, 6, .inl (upd (upd (upd (upd (upd (upd (fun _ => 0) 0 x0) 1 x1) 2 x2) 3 x3) 4 x4) 5 x5))), (t9, .inr (0, [.ref b9, .int 0, .int 0, .int 0])), (b9, .inl (cb9, 5, .inl fb9))] H := hP
    have hD : va_D A [(h0, .inr (23, [.int 0, v1, v2, v3, .ref t9, v4, v5, v6, v7])), (q1, .inl (cyq1, 6, .inl (upd (upd (upd (upd (upd (upd (fun _ => 0) 0 x0) 1 x1) 2 x2) 3 x3) 4 x4) 5 x5))), (t9, .inr (0, [.ref b9, .int 0, .int 0, .int 0])), (b9, .inl (cb9, 5, .inl fb9))] := hD
    refine lv_aload_n hx hb dX16_say_179 rfl (lv_at hl 1 rfl) ?_
    refine va_get (D := (dC, dI)) (ci := 23) (v := .ref t9) (C := RX16) (T := TX16) (N := 9) hx hb hta naX16 hown hK hP 0 rfl rfl 4 (by decide) (hta _ wm213) (fun _ h9 => h9) rfl dX16_say_180 ?_
    have hPc := hP.sub (ws' := [(t9, .inr (0, [.ref b9, .int 0, .int 0, .int 0])), (b9, .inl (cb9, 5, .inl fb9))]) [2, 3] rfl
    have hDc := hD.sub (ws' := [(t9, .inr (0, [.ref b9, .int 0, .int 0, .int 0])), (b9, .inl (cb9, 5, .inl fb9))]) [2, 3] (by decide) rfl
    have hKc := hK.sub (tys' := [(cb9, .byte)]) [1] rfl
    have hFc := va_free (wc := [(t9, .inr (0, [.ref b9, .int 0, .int 0, .int 0])), (b9, .inl (cb9, 5, .inl fb9))]) hD hS hA [2, 3] rfl
    refine va_calli (va_runV (As := []) (rest := []) ⟨hx, hb, hml, hown, hts⟩ (kJ0_length_8abf5_7 l dC dI g H.size t9 b9 (.int 0) (.int 0) cb9 fb9 hb9 ) (cwV 0 hts (ns_gp (List.forall_mem_cons.mpr ⟨wm646, (List.forall_mem_cons.mpr ⟨wm595, (List.forall_mem_cons.mpr ⟨wm596, (List.forall_mem_cons.mpr ⟨wm316, (fun _ h9 => nomatch h9)⟩)⟩)⟩)⟩) wm574) rfl rfl rfl (by decide +kernel) ⟨Nat.le_of_ble_eq_true rfl, Nat.le_of_ble_eq_true rfl⟩) ⟨fun a U gg mk q => by obtain ⟨q0, q1, qP, qK, qD, qF⟩ := q; exact ⟨q0, q1, qP, va_K.moved (u := U) (U := U.calling gg mk a) (Vm.Alike.refl U.vm) qK, qD, ns_same qF⟩, va_recv hK hP (ci := 0) (q0 := 2) rfl rfl, fun U hU hW => ⟨rfl, by rw [hU], by rw [hU]; exact hPc, va_K.moved hW.alike hKc, hDc.weaken (fun _ _ _ _ => trivial), ns_call hF hS hFc hU hW⟩⟩ rfl rfl hl.1 rfl (lv_room (Nat.le_of_ble_eq_true rfl)) dX16_say_183 ⟨Nat.le_of_ble_eq_true rfl, Nat.le_of_ble_eq_true rfl⟩) hS (fun q _ h => hFc q h) hFc (fun r9 u t H1 locs ht hvm hw hB hz1 hk1 hS => ?_)
    obtain rfl := hw.symm
    obtain ⟨hP1, hK1, hD1⟩ := hB
    rw [ht] at hP1
    have hK1 := va_K.moved hvm.symm hK1
    obtain ⟨hP, hD⟩ := va_join (wr := [(h0, .inr (23, [.int 0, v1, v2, v3, .ref t9, v4, v5, v6, v7])), (q1, .inl (cyq1, 6, .inl (upd (upd (upd (upd (upd (upd (fun _ => 0) 0 x0) 1 x1) 2 x2) 3 x3) 4 x4) 5 x5)))]) (w1 := [(b9, .inl (cb9, 5, .inl fb9)), (t9, .inr (0, [.ref b9, .int 0, .int 0, .int 0]))]) hP hD [2, 3] [0, 1] rfl rfl (by decide) (by decide) hk1 hFc hP1 hD1
    have hK := (hK.sub (tys' := [(cyq1, .int)]) [0] rfl).app hK1
    generalize H1 = H at hP hS ⊢
    have hP : va_P (dC, dI) vwCl [(h0, .inr (23, [.int 0, v1, v2, v3, .ref t9, v4, v5, v6, v7])), (q1, .inl (cyq1, 6, .inl (upd (upd (upd (upd (upd (upd (fun _ => 0) 0 x0) 1 x1) 2 x2) 3 x3) 4 x4) 5 x5))), (b9, .inl (cb9, 5, .inl fb9)), (t9, .inr (0, [.ref b9, .int 0, .int 0, .int 0]))] H := hP
    have hD : va_D A [(h0, .inr (23, [.int 0, v1, v2, v3, .ref t9, v4, v5, v6, v7])), (q1, .inl (cyq1, 6, .inl (upd (upd (upd (upd (upd (upd (fun _ => 0) 0 x0) 1 x1) 2 x2) 3 x3) 4 x4) 5 x5))), (b9, .inl (cb9, 5, .inl fb9)), (t9, .inr (0, [.ref b9, .int 0, .int 0, .int 0]))] := hD
    have hK : va_K (dC, dI) vwCl [(cyq1, .int), (cb9, .byte)] s := hK
    refine W.widen (k := 37) (n := 246) (Nat.le_of_ble_eq_true rfl) (Nat.le_of_ble_eq_true rfl) ?_
    have hP9 := hP.sub (ws' := [(h0, .inr (23, [.int 0, v1, v2, v3, .ref t9, v4, v5, v6, v7]))]) [0] rfl
    have hD9 := hD.sub (ws' := [(h0, .inr (23, [.int 0, v1, v2, v3, .ref t9, v4, v5, v6, v7]))]) [0] (by decide) rfl
    have hK9 := hK.sub (tys' := []) [] rfl
    refine W.widen (k := 37) (n := 246) (Nat.le_of_ble_eq_true rfl) (Nat.le_of_ble_eq_true rfl) ?_
    have hz9 : 5 = (ns_len (ns_len (ns_len (ns_len (ns_len (ns_len 0 x0) x1) x2) x3) x4) x5) := hE9.symm
    exact W.iret (v := 5) hx hb hr (fun t ht hW => ⟨⟨_, (), rfl, hz9, t9, by rw [ht]; exact hP9, va_K.moved hW.alike hK9, hD9⟩, hS.F ht⟩) hS.2.2 dX16_say_186
  · intro t9 b9 cb9 fb9 hb9 H locs ls hE9 hK hP hD hS hl
    refine lv_aload_n hx hb dX16_say_173 rfl (lv_at hl 1 rfl) ?_
    refine lv_aload hx hb dX16_say_174 (lv_at hl 0 rfl) ?_
    refine va_put (D := (dC, dI)) (ci := 23) (v := .ref t9) (ty := .object "java/lang/String") (C := RX16) (T := TX16) (N := 9) hx hb hta naX16 tyX16 tyX16_ok nmX16 hown hK hP hD hS 0 rfl rfl 4 (by decide) (hta _ wm213) (fun _ h9 => h9) rfl (by decide +kernel) rfl rfl (Nat.le_of_ble_eq_true rfl) dX16_say_176 (fun H locs hP hD hS => ?_)
    have hP : va_P (dC, dI) vwCl [(h0, .inr (23, [.int 0, v1, v2, v3, .ref t9, v4, v5, v6, v7])), (q1, .inl (cyq1, 6, .inl (upd (upd (upd (upd (upd (upd (fun _ => 0) 0 x0) 1 x1) 2 x2) 3 x3) 4 x4) 5 x5))), (t9, .inr (0, [.ref b9, .int 0, .int 0, .int 0])), (b9, .inl (cb9, 6, .inl fb9))] H := hP
    have hD : va_D A [(h0, .inr (23, [.int 0, v1, v2, v3, .ref t9, v4, v5, v6, v7])), (q1, .inl (cyq1, 6, .inl (upd (upd (upd (upd (upd (upd (fun _ => 0) 0 x0) 1 x1) 2 x2) 3 x3) 4 x4) 5 x5))), (t9, .inr (0, [.ref b9, .int 0, .int 0, .int 0])), (b9, .inl (cb9, 6, .inl fb9))] := hD
    refine lv_aload_n hx hb dX16_say_179 rfl (lv_at hl 1 rfl) ?_
    refine va_get (D := (dC, dI)) (ci := 23) (v := .ref t9) (C := RX16) (T := TX16) (N := 9) hx hb hta naX16 hown hK hP 0 rfl rfl 4 (by decide) (hta _ wm213) (fun _ h9 => h9) rfl dX16_say_180 ?_
    have hPc := hP.sub (ws' := [(t9, .inr (0, [.ref b9, .int 0, .int 0, .int 0])), (b9, .inl (cb9, 6, .inl fb9))]) [2, 3] rfl
    have hDc := hD.sub (ws' := [(t9, .inr (0, [.ref b9, .int 0, .int 0, .int 0])), (b9, .inl (cb9, 6, .inl fb9))]) [2, 3] (by decide) rfl
    have hKc := hK.sub (tys' := [(cb9, .byte)]) [1] rfl
    have hFc := va_free (wc := [(t9, .inr (0, [.ref b9, .int 0, .int 0, .int 0])), (b9, .inl (cb9, 6, .inl fb9))]) hD hS hA [2, 3] rfl
    refine va_calli (va_runV (As := []) (rest := []) ⟨hx, hb, hml, hown, hts⟩ (kJ0_length_8abf5_8 l dC dI g H.size t9 b9 (.int 0) (.int 0) cb9 fb9 hb9 ) (cwV 0 hts (ns_gp (List.forall_mem_cons.mpr ⟨wm646, (List.forall_mem_cons.mpr ⟨wm595, (List.forall_mem_cons.mpr ⟨wm596, (List.forall_mem_cons.mpr ⟨wm316, (fun _ h9 => nomatch h9)⟩)⟩)⟩)⟩) wm574) rfl rfl rfl (by decide +kernel) ⟨Nat.le_of_ble_eq_true rfl, Nat.le_of_ble_eq_true rfl⟩) ⟨fun a U gg mk q => by obtain ⟨q0, q1, qP, qK, qD, qF⟩ := q; exact ⟨q0, q1, qP, va_K.moved (u := U) (U := U.calling gg mk a) (Vm.Alike.refl U.vm) qK, qD, ns_same qF⟩, va_recv hK hP (ci := 0) (q0 := 2) rfl rfl, fun U hU hW => ⟨rfl, by rw [hU], by rw [hU]; exact hPc, va_K.moved hW.alike hKc, hDc.weaken (fun _ _ _ _ => trivial), ns_call hF hS hFc hU hW⟩⟩ rfl rfl hl.1 rfl (lv_room (Nat.le_of_ble_eq_true rfl)) dX16_say_183 ⟨Nat.le_of_ble_eq_true rfl, Nat.le_of_ble_eq_true rfl⟩) hS (fun q _ h => hFc q h) hFc (fun r9 u t H1 locs ht hvm hw hB hz1 hk1 hS => ?_)
    obtain rfl := hw.symm
    obtain ⟨hP1, hK1, hD1⟩ := hB
    rw [ht] at hP1
    have hK1 := va_K.moved hvm.symm hK1
    obtain ⟨hP, hD⟩ := va_join (wr := [(h0, .inr (23, [.int 0, v1, v2, v3, .ref t9, v4, v5, v6, v7])), (q1, .inl (cyq1, 6, .inl (upd (upd (upd (upd (upd (upd (fun _ => 0) 0 x0) 1 x1) 2 x2) 3 x3) 4 x4) 5 x5)))]) (w1 := [(b9, .inl (cb9, 6, .inl fb9)), (t9, .inr (0, [.ref b9, .int 0, .int 0, .int 0]))]) hP hD [2, 3] [0, 1] rfl rfl (by decide) (by decide) hk1 hFc hP1 hD1
    have hK := (hK.sub (tys' := [(cyq1, .int)]) [0] rfl).app hK1
    generalize H1 = H at hP hS ⊢
    have hP : va_P (dC, dI) vwCl [(h0, .inr (23, [.int 0, v1, v2, v3, .ref t9, v4, v5, v6, v7])), (q1, .inl (cyq1, 6, .inl (upd (upd (upd (upd (upd (upd (fun _ => 0) 0 x0) 1 x1) 2 x2) 3 x3) 4 x4) 5 x5))), (b9, .inl (cb9, 6, .inl fb9)), (t9, .inr (0, [.ref b9, .int 0, .int 0, .int 0]))] H := hP
    have hD : va_D A [(h0, .inr (23, [.int 0, v1, v2, v3, .ref t9, v4, v5, v6, v7])), (q1, .inl (cyq1, 6, .inl (upd (upd (upd (upd (upd (upd (fun _ => 0) 0 x0) 1 x1) 2 x2) 3 x3) 4 x4) 5 x5))), (b9, .inl (cb9, 6, .inl fb9)), (t9, .inr (0, [.ref b9, .int 0, .int 0, .int 0]))] := hD
    have hK : va_K (dC, dI) vwCl [(cyq1, .int), (cb9, .byte)] s := hK
    refine W.widen (k := 37) (n := 246) (Nat.le_of_ble_eq_true rfl) (Nat.le_of_ble_eq_true rfl) ?_
    have hP9 := hP.sub (ws' := [(h0, .inr (23, [.int 0, v1, v2, v3, .ref t9, v4, v5, v6, v7]))]) [0] rfl
    have hD9 := hD.sub (ws' := [(h0, .inr (23, [.int 0, v1, v2, v3, .ref t9, v4, v5, v6, v7]))]) [0] (by decide) rfl
    have hK9 := hK.sub (tys' := []) [] rfl
    refine W.widen (k := 37) (n := 246) (Nat.le_of_ble_eq_true rfl) (Nat.le_of_ble_eq_true rfl) ?_
    have hz9 : 6 = (ns_len (ns_len (ns_len (ns_len (ns_len (ns_len 0 x0) x1) x2) x3) x4) x5) := hE9.symm
    exact W.iret (v := 6) hx hb hr (fun t ht hW => ⟨⟨_, (), rfl, hz9, t9, by rw [ht]; exact hP9, va_K.moved hW.alike hK9, hD9⟩, hS.F ht⟩) hS.2.2 dX16_say_186
