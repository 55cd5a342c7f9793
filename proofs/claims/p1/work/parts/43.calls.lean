
set_option maxHeartbeats 4000000 in
set_option maxRecDepth 100000 in
theorem ns_say_5_3 {p : Program} {l : Launch} {e : Env} {s : State} {m : MethodId} {args : Array Value} {below : List Frame} {meth : Method} {c : Code} {dC : Nat → ClassId} {dI : Nat → Nat → Nat} {g : Nat → Nat} {A : Nat → Prop} {Q : State → Prop} {h0 : Nat} {x0 : Int32} {x1 : Int32} {x2 : Int32} {x3 : Int32} {x4 : Int32} {x5 : Int32} {v1 : Value} {v2 : Value} {v3 : Value} {v4 : Value} {v5 : Value} {v6 : Value} {v7 : Value} {q1 : Nat} {cyq1 : ClassId} {t9 b9 : Nat} {cb9 : ClassId} {fb9 : Nat → Int32} (hb9 : sb_Fit fb9) {H : Heap} {locs : List Loc} {ls : Array Slot} {E9 : Int32} (hE : E9 = 3) (ex0 : (-1 : Int) ≤ x0.toInt ∧ x0.toInt ≤ (21 : Int)) (ex1 : (-1 : Int) ≤ x1.toInt ∧ x1.toInt ≤ (21 : Int)) (ex2 : (-1 : Int) ≤ x2.toInt ∧ x2.toInt ≤ (21 : Int)) (ex3 : (-1 : Int) ≤ x3.toInt ∧ x3.toInt ≤ (21 : Int)) (ex4 : (-1 : Int) ≤ x4.toInt ∧ x4.toInt ≤ (21 : Int)) (ex5 : (-1 : Int) ≤ x5.toInt ∧ x5.toInt ≤ (21 : Int)) (hx : p.tables.exec = Jvm.exec) (hb : c.code = cX16_say) (hml : c.maxLocals = 14) (hown : s.vm.findClass RX16 = some m.cls) (hts : ∀ w ∈ wbX16_say, w.before args s = true) (hA : ∀ q : Nat, s.heap.size ≤ q → A q) (hF : ns_F g A s s.heap) (hK : va_K (dC, dI) vwCl [(cyq1, .int), (cb9, .byte)] s) (hP : va_P (dC, dI) vwCl [(h0, .inr (23, [.int 0, v1, v2, v3, .ref (g 34), v4, v5, v6, v7])), (q1, .inl (cyq1, 6, .inl (upd (upd (upd (upd (upd (upd (fun _ => 0) 0 x0) 1 x1) 2 x2) 3 x3) 4 x4) 5 x5))), (t9, .inr (0, [.ref b9, .int 0, .int 0, .int 0])), (b9, .inl (cb9, 3, .inl fb9))] H) (hD : va_D A [(h0, .inr (23, [.int 0, v1, v2, v3, .ref (g 34), v4, v5, v6, v7])), (q1, .inl (cyq1, 6, .inl (upd (upd (upd (upd (upd (upd (fun _ => 0) 0 x0) 1 x1) 2 x2) 3 x3) 4 x4) 5 x5))), (t9, .inr (0, [.ref b9, .int 0, .int 0, .int 0])), (b9, .inl (cb9, 3, .inl fb9))]) (hS : va_S A s.heap H locs) (hl : lv_has ls 14 [(12, .int 5), (11, .int 6), (10, .ref q1), (9, .ref t9), (0, .ref h0)]) (k09 : ∀ (H : Heap) (locs : List Loc) (ls : Array Slot), (ns_len E9 x5) = 0 → va_K (dC, dI) vwCl [(cyq1, .int)] s → va_P (dC, dI) vwCl [(h0, .inr (23, [.int 0, v1, v2, v3, .ref (g 34), v4, v5, v6, v7])), (q1, .inl (cyq1, 6, .inl (upd (upd (upd (upd (upd (upd (fun _ => 0) 0 x0) 1 x1) 2 x2) 3 x3) 4 x4) 5 x5)))] H → va_D A [(h0, .inr (23, [.int 0, v1, v2, v3, .ref (g 34), v4, v5, v6, v7])), (q1, .inl (cyq1, 6, .inl (upd (upd (upd (upd (upd (upd (fun _ => 0) 0 x0) 1 x1) 2 x2) 3 x3) 4 x4) 5 x5)))] → va_S A s.heap H locs → lv_has ls 14 [(9, .ref (g 34)), (0, .ref h0)] → W p l e ({ frames := 7, cells := 37, slots := 246, locals := 172 } : Room) s m args below meth c H locs 37 246 Q (F0 m 173 ls [])) (k19 : ∀ (t9 b9 : Nat) (cb9 : ClassId) (fb9 : Nat → Int32) (hb9 : sb_Fit fb9), ∀ (H : Heap) (locs : List Loc) (ls : Array Slot), (ns_len E9 x5) = 1 → va_K (dC, dI) vwCl [(cyq1, .int), (cb9, .byte)] s → va_P (dC, dI) vwCl [(h0, .inr (23, [.int 0, v1, v2, v3, .ref (g 34), v4, v5, v6, v7])), (q1, .inl (cyq1, 6, .inl (upd (upd (upd (upd (upd (upd (fun _ => 0) 0 x0) 1 x1) 2 x2) 3 x3) 4 x4) 5 x5))), (t9, .inr (0, [.ref b9, .int 0, .int 0, .int 0])), (b9, .inl (cb9, 1, .inl fb9))] H → va_D A [(h0, .inr (23, [.int 0, v1, v2, v3, .ref (g 34), v4, v5, v6, v7])), (q1, .inl (cyq1, 6, .inl (upd (upd (upd (upd (upd (upd (fun _ => 0) 0 x0) 1 x1) 2 x2) 3 x3) 4 x4) 5 x5))), (t9, .inr (0, [.ref b9, .int 0, .int 0, .int 0])), (b9, .inl (cb9, 1, .inl fb9))] → va_S A s.heap H locs → lv_has ls 14 [(9, .ref t9), (0, .ref h0)] → W p l e ({ frames := 7, cells := 37, slots := 246, locals := 172 } : Room) s m args below meth c H locs 37 246 Q (F0 m 173 ls [])) (k29 : ∀ (t9 b9 : Nat) (cb9 : ClassId) (fb9 : Nat → Int32) (hb9 : sb_Fit fb9), ∀ (H : Heap) (locs : List Loc) (ls : Array Slot), (ns_len E9 x5) = 2 → va_K (dC, dI) vwCl [(cyq1, .int), (cb9, .byte)] s → va_P (dC, dI) vwCl [(h0, .inr (23, [.int 0, v1, v2, v3, .ref (g 34), v4, v5, v6, v7])), (q1, .inl (cyq1, 6, .inl (upd (upd (upd (upd (upd (upd (fun _ => 0) 0 x0) 1 x1) 2 x2) 3 x3) 4 x4) 5 x5))), (t9, .inr (0, [.ref b9, .int 0, .int 0, .int 0])), (b9, .inl (cb9, 2, .inl fb9))] H → va_D A [(h0, .inr (23, [.int 0, v1, v2, v3, .ref (g 34), v4, v5, v6, v7])), (q1, .inl (cyq1, 6, .inl (upd (upd (upd (upd (upd (upd (fun _ => 0) 0 x0) 1 x1) 2 x2) 3 x3) 4 x4) 5 x5))), (t9, .inr (0, [.ref b9, .int 0, .int 0, .int 0])), (b9, .inl (cb9, 2, .inl fb9))] → va_S A s.heap H locs → lv_has ls 14 [(9, .ref t9), (0, .ref h0)] → W p l e ({ frames := 7, cells := 37, slots := 246, locals := 172 } : Room) s m args below meth c H locs 37 246 Q (F0 m 173 ls [])) (k39 : ∀ (t9 b9 : Nat) (cb9 : ClassId) (fb9 : Nat → Int32) (hb9 : sb_Fit fb9), ∀ (H : Heap) (locs : List Loc) (ls : Array Slot), (ns_len E9 x5) = 3 → va_K (dC, dI) vwCl [(cyq1, .int), (cb9, .byte)] s → va_P (dC, dI) vwCl [(h0, .inr (23, [.int 0, v1, v2, v3, .ref (g 34), v4, v5, v6, v7])), (q1, .inl (cyq1, 6, .inl (upd (upd (upd (upd (upd (upd (fun _ => 0) 0 x0) 1 x1) 2 x2) 3 x3) 4 x4) 5 x5))), (t9, .inr (0, [.ref b9, .int 0, .int 0, .int 0])), (b9, .inl (cb9, 3, .inl fb9))] H → va_D A [(h0, .inr (23, [.int 0, v1, v2, v3, .ref (g 34), v4, v5, v6, v7])), (q1, .inl (cyq1, 6, .inl (upd (upd (upd (upd (upd (upd (fun _ => 0) 0 x0) 1 x1) 2 x2) 3 x3) 4 x4) 5 x5))), (t9, .inr (0, [.ref b9, .int 0, .int 0, .int 0])), (b9, .inl (cb9, 3, .inl fb9))] → va_S A s.heap H locs → lv_has ls 14 [(9, .ref t9), (0, .ref h0)] → W p l e ({ frames := 7, cells := 37, slots := 246, locals := 172 } : Room) s m args below meth c H locs 37 246 Q (F0 m 173 ls [])) (k49 : ∀ (t9 b9 : Nat) (cb9 : ClassId) (fb9 : Nat → Int32) (hb9 : sb_Fit fb9), ∀ (H : Heap) (locs : List Loc) (ls : Array Slot), (ns_len E9 x5) = 4 → va_K (dC, dI) vwCl [(cyq1, .int), (cb9, .byte)] s → va_P (dC, dI) vwCl [(h0, .inr (23, [.int 0, v1, v2, v3, .ref (g 34), v4, v5, v6, v7])), (q1, .inl (cyq1, 6, .inl (upd (upd (upd (upd (upd (upd (fun _ => 0) 0 x0) 1 x1) 2 x2) 3 x3) 4 x4) 5 x5))), (t9, .inr (0, [.ref b9, .int 0, .int 0, .int 0])), (b9, .inl (cb9, 4, .inl fb9))] H → va_D A [(h0, .inr (23, [.int 0, v1, v2, v3, .ref (g 34), v4, v5, v6, v7])), (q1, .inl (cyq1, 6, .inl (upd (upd (upd (upd (upd (upd (fun _ => 0) 0 x0) 1 x1) 2 x2) 3 x3) 4 x4) 5 x5))), (t9, .inr (0, [.ref b9, .int 0, .int 0, .int 0])), (b9, .inl (cb9, 4, .inl fb9))] → va_S A s.heap H locs → lv_has ls 14 [(9, .ref t9), (0, .ref h0)] → W p l e ({ frames := 7, cells := 37, slots := 246, locals := 172 } : Room) s m args below meth c H locs 37 246 Q (F0 m 173 ls [])) (k59 : ∀ (t9 b9 : Nat) (cb9 : ClassId) (fb9 : Nat → Int32) (hb9 : sb_Fit fb9), ∀ (H : Heap) (locs : List Loc) (ls : Array Slot), (ns_len E9 x5) = 5 → va_K (dC, dI) vwCl [(cyq1, .int), (cb9, .byte)] s → va_P (dC, dI) vwCl [(h0, .inr (23, [.int 0, v1, v2, v3, .ref (g 34), v4, v5, v6, v7])), (q1, .inl (cyq1, 6, .inl (upd (upd (upd (upd (upd (upd (fun _ => 0) 0 x0) 1 x1) 2 x2) 3 x3) 4 x4) 5 x5))), (t9, .inr (0, [.ref b9, .int 0, .int 0, .int 0])), (b9, .inl (cb9, 5, .inl fb9))] H → va_D A [(h0, .inr (23, [.int 0, v1, v2, v3, .ref (g 34), v4, v5, v6, v7])), (q1, .inl (cyq1, 6, .inl (upd (upd (upd (upd (upd (upd (fun _ => 0) 0 x0) 1 x1) 2 x2) 3 x3) 4 x4) 5 x5))), (t9, .inr (0, [.ref b9, .int 0, .int 0, .int 0])), (b9, .inl (cb9, 5, .inl fb9))] → va_S A s.heap H locs → lv_has ls 14 [(9, .ref t9), (0, .ref h0)] → W p l e ({ frames := 7, cells := 37, slots := 246, locals := 172 } : Room) s m args below meth c H locs 37 246 Q (F0 m 173 ls [])) (k69 : ∀ (t9 b9 : Nat) (cb9 : ClassId) (fb9 : Nat → Int32) (hb9 : sb_Fit fb9), ∀ (H : Heap) (locs : List Loc) (ls : Array Slot), (ns_len E9 x5) = 6 → va_K (dC, dI) vwCl [(cyq1, .int), (cb9, .byte)] s → va_P (dC, dI) vwCl [(h0, .inr (23, [.int 0, v1, v2, v3, .ref (g 34), v4, v5, v6, v7])), (q1, .inl (cyq1, 6, .inl (upd (upd (upd (upd (upd (upd (fun _ => 0) 0 x0) 1 x1) 2 x2) 3 x3) 4 x4) 5 x5))), (t9, .inr (0, [.ref b9, .int 0, .int 0, .int 0])), (b9, .inl (cb9, 6, .inl fb9))] H → va_D A [(h0, .inr (23, [.int 0, v1, v2, v3, .ref (g 34), v4, v5, v6, v7])), (q1, .inl (cyq1, 6, .inl (upd (upd (upd (upd (upd (upd (fun _ => 0) 0 x0) 1 x1) 2 x2) 3 x3) 4 x4) 5 x5))), (t9, .inr (0, [.ref b9, .int 0, .int 0, .int 0])), (b9, .inl (cb9, 6, .inl fb9))] → va_S A s.heap H locs → lv_has ls 14 [(9, .ref t9), (0, .ref h0)] → W p l e ({ frames := 7, cells := 37, slots := 246, locals := 172 } : Room) s m args below meth c H locs 37 246 Q (F0 m 173 ls [])) : W p l e ({ frames := 7, cells := 37, slots := 246, locals := 172 } : Room) s m args below meth c H locs 31 206 Q (F0 m 119 ls []) := by
  have hta : ∀ w ∈ wsALL, w.before args s = true := fun w h => hts w (List.mem_cons_of_mem _ h)
  refine lv_iload hx hb dX16_say_119 (lv_at hl 0 rfl) ?_
  refine lv_iload hx hb dX16_say_121 (lv_at hl 1 rfl) ?_
  refine lv_icmp_ge (tgt := 173) hx hb dX16_say_123 (by decide) (fun c1001 => absurd c1001 (by decide)) (fun c1001 => ?_)
  refine lv_aload hx hb dX16_say_126 (lv_at hl 2 rfl) ?_
  refine lv_iload hx hb dX16_say_128 (lv_at hl 0 rfl) ?_
  refine va_iald hx hb hK hP 1 0 rfl rfl (vp_in_nI (n := 5) (by decide) (by decide)) dX16_say_130 ?_
  refine lv_topi (fun y1002 ey1002 => ?_)
  obtain rfl : x5 = y1002 := ey1002.symm
  refine lv_istore (lv' := [(13, .int x5), (12, .int 5), (11, .int 6), (10, .ref q1), (9, .ref t9), (0, .ref h0)]) hx hb dX16_say_131 hl (by decide) rfl (fun ls hl => ?_)
  rcases (show ((-1 : Int) ≤ x5.toInt ∧ x5.toInt ≤ (-1 : Int)) ∨ ((0 : Int) ≤ x5.toInt ∧ x5.toInt ≤ (19 : Int)) ∨ ((20 : Int) ≤ x5.toInt ∧ x5.toInt ≤ (20 : Int)) ∨ ((21 : Int) ≤ x5.toInt ∧ x5.toInt ≤ (21 : Int)) by omega) with r13 | r13 | r13 | r13
  · have _h9 := 0
    refine lv_aload hx hb dX16_say_133 (lv_at hl 4 rfl) ?_
    refine lv_iload hx hb dX16_say_135 (lv_at hl 0 rfl) ?_
    have hPc := hP.sub (ws' := []) [] rfl
    have hDc := hD.sub (ws' := []) [] (by decide) rfl
    have hKc := hK.sub (tys' := []) [] rfl
    have hFc := va_free (wc := []) hD hS hA [] rfl
    refine va_callr (va_runS (As := [.ref t9, .int x5]) (rest := []) ⟨hx, hb, hml, hown, hts⟩ (kX16_said_5 l dC dI g H.size t9 x5 ⟨by omega, by omega⟩) (va_cwS 2 hts (ns_gp (List.forall_mem_cons.mpr ⟨wm655, (List.forall_mem_cons.mpr ⟨wm656, (List.forall_mem_cons.mpr ⟨wm192, (fun _ h9 => nomatch h9)⟩)⟩)⟩) wm604) rfl rfl rfl (by decide +kernel) ⟨Nat.le_of_ble_eq_true rfl, Nat.le_of_ble_eq_true rfl⟩) ⟨fun a U gg mk q => by obtain ⟨q0, q1, qP, qK, qD, qF⟩ := q; exact ⟨q0, q1, qP, va_K.moved (u := U) (U := U.calling gg mk a) (Vm.Alike.refl U.vm) qK, qD, ns_same qF⟩, fun U hU hW => ⟨rfl, by rw [hU], by rw [hU]; exact hPc, va_K.moved hW.alike hKc, hDc.weaken (fun _ _ _ _ => trivial), ns_call hF hS hFc hU hW⟩⟩ rfl rfl hl.1 rfl (lv_room (Nat.le_of_ble_eq_true rfl)) dX16_say_137 ⟨Nat.le_of_ble_eq_true rfl, Nat.le_of_ble_eq_true rfl⟩) hS (fun q _ h => hFc q h) hFc (fun u r9 t H1 locs ht hvm hw hB hz1 hk1 hS => ?_)
    obtain ⟨hr9, hP1, hK1, hD1⟩ := hB
    obtain rfl := hr9.symm
    rw [ht] at hP1
    have hK1 := va_K.moved hvm.symm hK1
    obtain ⟨hP, hD⟩ := va_join (wr := [(h0, .inr (23, [.int 0, v1, v2, v3, .ref (g 34), v4, v5, v6, v7])), (q1, .inl (cyq1, 6, .inl (upd (upd (upd (upd (upd (upd (fun _ => 0) 0 x0) 1 x1) 2 x2) 3 x3) 4 x4) 5 x5))), (t9, .inr (0, [.ref b9, .int 0, .int 0, .int 0])), (b9, .inl (cb9, 3, .inl fb9))]) (w1 := []) hP hD [] [0, 1, 2, 3] rfl rfl (by decide) (by decide) hk1 hFc hP1 hD1
    have hK := (hK.sub (tys' := [(cyq1, .int), (cb9, .byte)]) [0, 1] rfl).app hK1
    generalize H1 = H at hP hS ⊢
    have hP : va_P (dC, dI) vwCl [(h0, .inr (23, [.int 0, v1, v2, v3, .ref (g 34), v4, v5, v6, v7])), (q1, .inl (cyq1, 6, .inl (upd (upd (upd (upd (upd (upd (fun _ => 0) 0 x0) 1 x1) 2 x2) 3 x3) 4 x4) 5 x5))), (t9, .inr (0, [.ref b9, .int 0, .int 0, .int 0])), (b9, .inl (cb9, 3, .inl fb9))] H := hP
    have hD : va_D A [(h0, .inr (23, [.int 0, v1, v2, v3, .ref (g 34), v4, v5, v6, v7])), (q1, .inl (cyq1, 6, .inl (upd (upd (upd (upd (upd (upd (fun _ => 0) 0 x0) 1 x1) 2 x2) 3 x3) 4 x4) 5 x5))), (t9, .inr (0, [.ref b9, .int 0, .int 0, .int 0])), (b9, .inl (cb9, 3, .inl fb9))] := hD
    have hK : va_K (dC, dI) vwCl [(cyq1, .int), (cb9, .byte)] s := hK
    refine W.widen (k := 31) (n := 206) (Nat.le_of_ble_eq_true rfl) (Nat.le_of_ble_eq_true rfl) ?_
    refine lv_astore (lv' := [(9, .ref t9), (13, .int x5), (12, .int 5), (11, .int 6), (10, .ref q1), (0, .ref h0)]) hx hb dX16_say_140 hl (by decide) rfl (fun ls hl => ?_)
    refine lv_aload_n hx hb dX16_say_142 rfl (lv_at hl 5 rfl) ?_
    refine lv_aload hx hb dX16_say_143 (lv_at hl 0 rfl) ?_
    have hPc := hP.sub (ws' := [(t9, .inr (0, [.ref b9, .int 0, .int 0, .int 0])), (b9, .inl (cb9, 3, .inl fb9))]) [2, 3] rfl
    have hDc := hD.sub (ws' := [(t9, .inr (0, [.ref b9, .int 0, .int 0, .int 0])), (b9, .inl (cb9, 3, .inl fb9))]) [2, 3] (by decide) rfl
    have hKc := hK.sub (tys' := [(cb9, .byte)]) [1] rfl
    have hFc := va_free (wc := [(t9, .inr (0, [.ref b9, .int 0, .int 0, .int 0])), (b9, .inl (cb9, 3, .inl fb9))]) hD hS hA [2, 3] rfl
    refine va_calli (va_runV (As := []) (rest := [.ref h0]) ⟨hx, hb, hml, hown, hts⟩ (kJ0_length_8abf5_5 l dC dI g H.size t9 b9 (.int 0) (.int 0) cb9 fb9 hb9 ) (cwV 0 hts (ns_gp (List.forall_mem_cons.mpr ⟨wm646, (List.forall_mem_cons.mpr ⟨wm595, (List.forall_mem_cons.mpr ⟨wm596, (List.forall_mem_cons.mpr ⟨wm316, (fun _ h9 => nomatch h9)⟩)⟩)⟩)⟩) wm574) rfl rfl rfl (by decide +kernel) ⟨Nat.le_of_ble_eq_true rfl, Nat.le_of_ble_eq_true rfl⟩) ⟨fun a U gg mk q => by obtain ⟨q0, q1, qP, qK, qD, qF⟩ := q; exact ⟨q0, q1, qP, va_K.moved (u := U) (U := U.calling gg mk a) (Vm.Alike.refl U.vm) qK, qD, ns_same qF⟩, va_recv hK hP (ci := 0) (q0 := 2) rfl rfl, fun U hU hW => ⟨rfl, by rw [hU], by rw [hU]; exact hPc, va_K.moved hW.alike hKc, hDc.weaken (fun _ _ _ _ => trivial), ns_call hF hS hFc hU hW⟩⟩ rfl rfl hl.1 rfl (lv_room (Nat.le_of_ble_eq_true rfl)) dX16_say_145 ⟨Nat.le_of_ble_eq_true rfl, Nat.le_of_ble_eq_true rfl⟩) hS (fun q _ h => hFc q h) hFc (fun r9 u t H1 locs ht hvm hw hB hz1 hk1 hS => ?_)
    obtain rfl := hw.symm
    obtain ⟨hP1, hK1, hD1⟩ := hB
    rw [ht] at hP1
    have hK1 := va_K.moved hvm.symm hK1
    obtain ⟨hP, hD⟩ := va_join (wr := [(h0, .inr (23, [.int 0, v1, v2, v3, .ref (g 34), v4, v5, v6, v7])), (q1, .inl (cyq1, 6, .inl (upd (upd (upd (upd (upd (upd (fun _ => 0) 0 x0) 1 x1) 2 x2) 3 x3) 4 x4) 5 x5)))]) (w1 := [(b9, .inl (cb9, 3, .inl fb9)), (t9, .inr (0, [.ref b9, .int 0, .int 0, .int 0]))]) hP hD [2, 3] [0, 1] rfl rfl (by decide) (by decide) hk1 hFc hP1 hD1
    have hK := (hK.sub (tys' := [(cyq1, .int)]) [0] rfl).app hK1
    generalize H1 = H at hP hS ⊢
    have hP : va_P (dC, dI) vwCl [(h0, .inr (23, [.int 0, v1, v2, v3, .ref (g 34), v4, v5, v6, v7])), (q1, .inl (cyq1, 6, .inl (upd (upd (upd (upd (upd (upd (fun _ => 0) 0 x0) 1 x1) 2 x2) 3 x3) 4 x4) 5 x5))), (b9, .inl (cb9, 3, .inl fb9)), (t9, .inr (0, [.ref b9, .int 0, .int 0, .int 0]))] H := hP
    have hD : va_D A [(h0, .inr (23, [.int 0, v1, v2, v3, .ref (g 34), v4, v5, v6, v7])), (q1, .inl (cyq1, 6, .inl (upd (upd (upd (upd (upd (upd (fun _ => 0) 0 x0) 1 x1) 2 x2) 3 x3) 4 x4) 5 x5))), (b9, .inl (cb9, 3, .inl fb9)), (t9, .inr (0, [.ref b9, .int 0, .int 0, .int 0]))] := hD
    have hK : va_K (dC, dI) vwCl [(cyq1, .int), (cb9, .byte)] s := hK
    refine W.widen (k := 31) (n := 206) (Nat.le_of_ble_eq_true rfl) (Nat.le_of_ble_eq_true rfl) ?_
    refine lv_bipush (v := 60) hx hb dX16_say_148 (by decide) ?_
    refine lv_icmp_le (tgt := 157) hx hb dX16_say_150 (by decide) (fun c1003 => ?_) (fun c1003 => absurd (by decide) c1003)
    refine lv_iconst (v := 0) hx hb dX16_say_157 (by decide) ?_
    refine lv_iconst (v := 2) hx hb dX16_say_158 (by decide) ?_
    have hPc := hP.sub (ws' := [(h0, .inr (23, [.int 0, v1, v2, v3, .ref (g 34), v4, v5, v6, v7]))]) [0] rfl
    have hDc := hD.sub (ws' := [(h0, .inr (23, [.int 0, v1, v2, v3, .ref (g 34), v4, v5, v6, v7]))]) [0] (by decide) rfl
    have hKc := hK.sub (tys' := []) [] rfl
    have hFc := va_free (wc := [(h0, .inr (23, [.int 0, v1, v2, v3, .ref (g 34), v4, v5, v6, v7]))]) hD hS hA [0] rfl
    refine va_calli (va_runV (As := [.int 0, .int 2]) (rest := []) ⟨hx, hb, hml, hown, hts⟩ (kX16_refuse_3 l dC dI g H.size h0 v1 v2 v3 (.ref (g 34)) v4 v5 v6 v7 ) (cwV 2 hts (ns_gp (List.forall_mem_cons.mpr ⟨wm236, (List.forall_mem_cons.mpr ⟨wm237, (List.forall_mem_cons.mpr ⟨wm238, (List.forall_mem_cons.mpr ⟨wm192, (fun _ h9 => nomatch h9)⟩)⟩)⟩)⟩) wm235) rfl rfl rfl (by decide +kernel) ⟨Nat.le_of_ble_eq_true rfl, Nat.le_of_ble_eq_true rfl⟩) ⟨fun a U gg mk q => by obtain ⟨q0, q1, qP, qK, qD, qF⟩ := q; exact ⟨q0, q1, qP, va_K.moved (u := U) (U := U.calling gg mk a) (Vm.Alike.refl U.vm) qK, qD, ns_same qF⟩, va_recv hK hP (ci := 23) (q0 := 0) rfl rfl, fun U hU hW => ⟨rfl, by rw [hU], by rw [hU]; exact hPc, va_K.moved hW.alike hKc, hDc.weaken (fun _ _ _ _ => trivial), ns_call hF hS hFc hU hW⟩⟩ rfl rfl hl.1 rfl (lv_room (Nat.le_of_ble_eq_true rfl)) dX16_say_159 ⟨Nat.le_of_ble_eq_true rfl, Nat.le_of_ble_eq_true rfl⟩) hS (fun q _ h => hFc q h) hFc (fun r9 u t H1 locs ht hvm hw hB hz1 hk1 hS => ?_)
    obtain rfl := hw.symm
    obtain ⟨hP1, hK1, hD1⟩ := hB
    rw [ht] at hP1
    have hK1 := va_K.moved hvm.symm hK1
    obtain ⟨hP, hD⟩ := va_join (wr := [(q1, .inl (cyq1, 6, .inl (upd (upd (upd (upd (upd (upd (fun _ => 0) 0 x0) 1 x1) 2 x2) 3 x3) 4 x4) 5 x5))), (b9, .inl (cb9, 3, .inl fb9)), (t9, .inr (0, [.ref b9, .int 0, .int 0, .int 0]))]) (w1 := [(h0, .inr (23, [.int 0, v1, v2, v3, .ref (g 34), v4, v5, v6, v7]))]) hP hD [0] [1, 2, 3] rfl rfl (by decide) (by decide) hk1 hFc hP1 hD1
    have hK := (hK.sub (tys' := [(cyq1, .int), (cb9, .byte)]) [0, 1] rfl).app hK1
    generalize H1 = H at hP hS ⊢
    have hP : va_P (dC, dI) vwCl [(q1, .inl (cyq1, 6, .inl (upd (upd (upd (upd (upd (upd (fun _ => 0) 0 x0) 1 x1) 2 x2) 3 x3) 4 x4) 5 x5))), (b9, .inl (cb9, 3, .inl fb9)), (t9, .inr (0, [.ref b9, .int 0, .int 0, .int 0])), (h0, .inr (23, [.int 0, v1, v2, v3, .ref (g 34), v4, v5, v6, v7]))] H := hP
    have hD : va_D A [(q1, .inl (cyq1, 6, .inl (upd (upd (upd (upd (upd (upd (fun _ => 0) 0 x0) 1 x1) 2 x2) 3 x3) 4 x4) 5 x5))), (b9, .inl (cb9, 3, .inl fb9)), (t9, .inr (0, [.ref b9, .int 0, .int 0, .int 0])), (h0, .inr (23, [.int 0, v1, v2, v3, .ref (g 34), v4, v5, v6, v7]))] := hD
    have hK : va_K (dC, dI) vwCl [(cyq1, .int), (cb9, .byte)] s := hK
    refine W.widen (k := 31) (n := 206) (Nat.le_of_ble_eq_true rfl) (Nat.le_of_ble_eq_true rfl) ?_
    refine lv_if_eq (tgt := 167) hx hb dX16_say_162 (by decide) (fun c1004 => ?_) (fun c1004 => absurd (by decide) c1004)
    refine lv_iinc (v := 6) (lv' := [(12, .int 6), (9, .ref t9), (13, .int x5), (11, .int 6), (10, .ref q1), (0, .ref h0)]) hx hb dX16_say_167 hl (k := 2) rfl (by decide) (by decide) rfl (fun ls hl => ?_)
    refine lv_goto (tgt := 119) hx hb dX16_say_170 (by decide) ?_
    have hP := hP.sub (ws' := [(h0, .inr (23, [.int 0, v1, v2, v3, .ref (g 34), v4, v5, v6, v7])), (q1, .inl (cyq1, 6, .inl (upd (upd (upd (upd (upd (upd (fun _ => 0) 0 x0) 1 x1) 2 x2) 3 x3) 4 x4) 5 x5))), (t9, .inr (0, [.ref b9, .int 0, .int 0, .int 0])), (b9, .inl (cb9, 3, .inl fb9))]) [3, 0, 2, 1] rfl
    have hD := hD.sub (ws' := [(h0, .inr (23, [.int 0, v1, v2, v3, .ref (g 34), v4, v5, v6, v7])), (q1, .inl (cyq1, 6, .inl (upd (upd (upd (upd (upd (upd (fun _ => 0) 0 x0) 1 x1) 2 x2) 3 x3) 4 x4) 5 x5))), (t9, .inr (0, [.ref b9, .int 0, .int 0, .int 0])), (b9, .inl (cb9, 3, .inl fb9))]) [3, 0, 2, 1] (by decide) rfl
    have hK := hK.sub (tys' := [(cyq1, .int), (cb9, .byte)]) [0, 1] rfl
    have hl := lv_sub hl (l' := [(12, .int 6), (11, .int 6), (10, .ref q1), (9, .ref t9), (0, .ref h0)]) [0, 3, 4, 1, 5] rfl
    refine W.widen (k := 37) (n := 246) (Nat.le_of_ble_eq_true rfl) (Nat.le_of_ble_eq_true rfl) ?_
    have hE2 : ns_len E9 x5 = 3 := by rw [hE]; exact ns_lenA x5 3 (by omega)
    exact ns_say_6_3 hb9 hE2 ex0 ex1 ex2 ex3 ex4 ex5 hx hb hml hown hts hA hF hK hP hD hS hl k09 k19 k29 k39 k49 k59 k69
  · have _h9 := 0
    refine lv_aload hx hb dX16_say_133 (lv_at hl 4 rfl) ?_
    refine lv_iload hx hb dX16_say_135 (lv_at hl 0 rfl) ?_
    have hPc := hP.sub (ws' := [(t9, .inr (0, [.ref b9, .int 0, .int 0, .int 0])), (b9, .inl (cb9, 3, .inl fb9))]) [2, 3] rfl
    have hDc := hD.sub (ws' := [(t9, .inr (0, [.ref b9, .int 0, .int 0, .int 0])), (b9, .inl (cb9, 3, .inl fb9))]) [2, 3] (by decide) rfl
    have hKc := hK.sub (tys' := [(cb9, .byte)]) [1] rfl
    have hFc := va_free (wc := [(t9, .inr (0, [.ref b9, .int 0, .int 0, .int 0])), (b9, .inl (cb9, 3, .inl fb9))]) hD hS hA [2, 3] rfl
    refine va_callr (va_runS (As := [.ref t9, .int x5]) (rest := []) ⟨hx, hb, hml, hown, hts⟩ (kX16_said_11 l dC dI g H.size t9 x5 b9 (.int 0) (.int 0) cb9 fb9 hb9 ⟨by omega, by omega⟩) (va_cwS 2 hts (ns_gp (List.forall_mem_cons.mpr ⟨wm655, (List.forall_mem_cons.mpr ⟨wm656, (List.forall_mem_cons.mpr ⟨wm192, (fun _ h9 => nomatch h9)⟩)⟩)⟩) wm604) rfl rfl rfl (by decide +kernel) ⟨Nat.le_of_ble_eq_true rfl, Nat.le_of_ble_eq_true rfl⟩) ⟨fun a U gg mk q => by obtain ⟨q0, q1, qP, qK, qD, qF⟩ := q; exact ⟨q0, q1, qP, va_K.moved (u := U) (U := U.calling gg mk a) (Vm.Alike.refl U.vm) qK, qD, ns_same qF⟩, fun U hU hW => ⟨rfl, by rw [hU], by rw [hU]; exact hPc, va_K.moved hW.alike hKc, hDc.weaken (fun _ _ _ _ => trivial), ns_call hF hS hFc hU hW⟩⟩ rfl rfl hl.1 rfl (lv_room (Nat.le_of_ble_eq_true rfl)) dX16_say_137 ⟨Nat.le_of_ble_eq_true rfl, Nat.le_of_ble_eq_true rfl⟩) hS (fun q _ h => hFc q h) hFc (fun u r9 t H1 locs ht hvm hw hB hz1 hk1 hS => ?_)
    obtain ⟨q1005, q1006, cy1007, q1008, q1009, cy1010, hr9, hP1, hK1, hD1⟩ := hB
    obtain rfl := hr9.symm
    rw [ht] at hP1
    have hK1 := va_K.moved hvm.symm hK1
    obtain ⟨hP, hD⟩ := va_join (wr := [(h0, .inr (23, [.int 0, v1, v2, v3, .ref (g 34), v4, v5, v6, v7])), (q1, .inl (cyq1, 6, .inl (upd (upd (upd (upd (upd (upd (fun _ => 0) 0 x0) 1 x1) 2 x2) 3 x3) 4 x4) 5 x5)))]) (w1 := [(b9, .inl (cb9, 3, .inl fb9)), (t9, .inr (0, [.ref b9, .int 0, .int 0, .int 0])), (q1008, .inr (0, [.ref q1009, .int 0, .int 0, .int 0])), (q1005, .inr (1, [.ref q1006, .int 0, .int 0, .int 4])), (q1006, .inl (cy1007, 16, .inl (upd ((va_cpy (fb9) ((fun _ => 0)) 0 0 3)) 3 (vp_nar .byte (ns_ch x5).toInt8.toInt32)))), (q1009, .inl (cy1010, 4, .inl (va_cpy ((upd ((va_cpy (fb9) ((fun _ => 0)) 0 0 3)) 3 (vp_nar .byte (ns_ch x5).toInt8.toInt32))) (fun _ => 0) 0 0 4)))]) hP hD [2, 3] [0, 1] rfl rfl (by decide) (by decide) hk1 hFc hP1 hD1
    have hK := (hK.sub (tys' := [(cyq1, .int)]) [0] rfl).app hK1
    generalize H1 = H at hP hS ⊢
    have hP : va_P (dC, dI) vwCl [(h0, .inr (23, [.int 0, v1, v2, v3, .ref (g 34), v4, v5, v6, v7])), (q1, .inl (cyq1, 6, .inl (upd (upd (upd (upd (upd (upd (fun _ => 0) 0 x0) 1 x1) 2 x2) 3 x3) 4 x4) 5 x5))), (b9, .inl (cb9, 3, .inl fb9)), (t9, .inr (0, [.ref b9, .int 0, .int 0, .int 0])), (q1008, .inr (0, [.ref q1009, .int 0, .int 0, .int 0])), (q1005, .inr (1, [.ref q1006, .int 0, .int 0, .int 4])), (q1006, .inl (cy1007, 16, .inl (upd ((va_cpy (fb9) ((fun _ => 0)) 0 0 3)) 3 (vp_nar .byte (ns_ch x5).toInt8.toInt32)))), (q1009, .inl (cy1010, 4, .inl (va_cpy ((upd ((va_cpy (fb9) ((fun _ => 0)) 0 0 3)) 3 (vp_nar .byte (ns_ch x5).toInt8.toInt32))) (fun _ => 0) 0 0 4)))] H := hP
    have hD : va_D A [(h0, .inr (23, [.int 0, v1, v2, v3, .ref (g 34), v4, v5, v6, v7])), (q1, .inl (cyq1, 6, .inl (upd (upd (upd (upd (upd (upd (fun _ => 0) 0 x0) 1 x1) 2 x2) 3 x3) 4 x4) 5 x5))), (b9, .inl (cb9, 3, .inl fb9)), (t9, .inr (0, [.ref b9, .int 0, .int 0, .int 0])), (q1008, .inr (0, [.ref q1009, .int 0, .int 0, .int 0])), (q1005, .inr (1, [.ref q1006, .int 0, .int 0, .int 4])), (q1006, .inl (cy1007, 16, .inl (upd ((va_cpy (fb9) ((fun _ => 0)) 0 0 3)) 3 (vp_nar .byte (ns_ch x5).toInt8.toInt32)))), (q1009, .inl (cy1010, 4, .inl (va_cpy ((upd ((va_cpy (fb9) ((fun _ => 0)) 0 0 3)) 3 (vp_nar .byte (ns_ch x5).toInt8.toInt32))) (fun _ => 0) 0 0 4)))] := hD
    have hK : va_K (dC, dI) vwCl [(cyq1, .int), (cb9, .byte), (cy1007, .byte), (cy1010, .byte)] s := hK
    refine W.widen (k := 35) (n := 234) (Nat.le_of_ble_eq_true rfl) (Nat.le_of_ble_eq_true rfl) ?_
    refine lv_astore (lv' := [(9, .ref q1008), (13, .int x5), (12, .int 5), (11, .int 6), (10, .ref q1), (0, .ref h0)]) hx hb dX16_say_140 hl (by decide) rfl (fun ls hl => ?_)
    refine lv_aload_n hx hb dX16_say_142 rfl (lv_at hl 5 rfl) ?_
    refine lv_aload hx hb dX16_say_143 (lv_at hl 0 rfl) ?_
    have hPc := hP.sub (ws' := [(q1008, .inr (0, [.ref q1009, .int 0, .int 0, .int 0])), (q1009, .inl (cy1010, 4, .inl (va_cpy ((upd ((va_cpy (fb9) ((fun _ => 0)) 0 0 3)) 3 (vp_nar .byte (ns_ch x5).toInt8.toInt32))) (fun _ => 0) 0 0 4)))]) [4, 7] rfl
    have hDc := hD.sub (ws' := [(q1008, .inr (0, [.ref q1009, .int 0, .int 0, .int 0])), (q1009, .inl (cy1010, 4, .inl (va_cpy ((upd ((va_cpy (fb9) ((fun _ => 0)) 0 0 3)) 3 (vp_nar .byte (ns_ch x5).toInt8.toInt32))) (fun _ => 0) 0 0 4)))]) [4, 7] (by decide) rfl
    have hKc := hK.sub (tys' := [(cy1010, .byte)]) [3] rfl
    have hFc := va_free (wc := [(q1008, .inr (0, [.ref q1009, .int 0, .int 0, .int 0])), (q1009, .inl (cy1010, 4, .inl (va_cpy ((upd ((va_cpy (fb9) ((fun _ => 0)) 0 0 3)) 3 (vp_nar .byte (ns_ch x5).toInt8.toInt32))) (fun _ => 0) 0 0 4)))]) hD hS hA [4, 7] rfl
    refine va_calli (va_runV (As := []) (rest := [.ref h0]) ⟨hx, hb, hml, hown, hts⟩ (kJ0_length_8abf5_6 l dC dI g H.size q1008 q1009 (.int 0) (.int 0) cy1010 (va_cpy ((upd ((va_cpy (fb9) ((fun _ => 0)) 0 0 3)) 3 (vp_nar .byte (ns_ch x5).toInt8.toInt32))) (fun _ => 0) 0 0 4) (sb_fitC (sb_fitU (sb_fitC hb9 sb_fit0) (pk_fb _)) sb_fit0) ) (cwV 0 hts (ns_gp (List.forall_mem_cons.mpr ⟨wm646, (List.forall_mem_cons.mpr ⟨wm595, (List.forall_mem_cons.mpr ⟨wm596, (List.forall_mem_cons.mpr ⟨wm316, (fun _ h9 => nomatch h9)⟩)⟩)⟩)⟩) wm574) rfl rfl rfl (by decide +kernel) ⟨Nat.le_of_ble_eq_true rfl, Nat.le_of_ble_eq_true rfl⟩) ⟨fun a U gg mk q => by obtain ⟨q0, q1, qP, qK, qD, qF⟩ := q; exact ⟨q0, q1, qP, va_K.moved (u := U) (U := U.calling gg mk a) (Vm.Alike.refl U.vm) qK, qD, ns_same qF⟩, va_recv hK hP (ci := 0) (q0 := 4) rfl rfl, fun U hU hW => ⟨rfl, by rw [hU], by rw [hU]; exact hPc, va_K.moved hW.alike hKc, hDc.weaken (fun _ _ _ _ => trivial), ns_call hF hS hFc hU hW⟩⟩ rfl rfl hl.1 rfl (lv_room (Nat.le_of_ble_eq_true rfl)) dX16_say_145 ⟨Nat.le_of_ble_eq_true rfl, Nat.le_of_ble_eq_true rfl⟩) hS (fun q _ h => hFc q h) hFc (fun r9 u t H1 locs ht hvm hw hB hz1 hk1 hS => ?_)
    obtain rfl := hw.symm
    obtain ⟨hP1, hK1, hD1⟩ := hB
    rw [ht] at hP1
    have hK1 := va_K.moved hvm.symm hK1
    obtain ⟨hP, hD⟩ := va_join (wr := [(h0, .inr (23, [.int 0, v1, v2, v3, .ref (g 34), v4, v5, v6, v7])), (q1, .inl (cyq1, 6, .inl (upd (upd (upd (upd (upd (upd (fun _ => 0) 0 x0) 1 x1) 2 x2) 3 x3) 4 x4) 5 x5))), (b9, .inl (cb9, 3, .inl fb9)), (t9, .inr (0, [.ref b9, .int 0, .int 0, .int 0])), (q1005, .inr (1, [.ref q1006, .int 0, .int 0, .int 4])), (q1006, .inl (cy1007, 16, .inl (upd ((va_cpy (fb9) ((fun _ => 0)) 0 0 3)) 3 (vp_nar .byte (ns_ch x5).toInt8.toInt32))))]) (w1 := [(q1009, .inl (cy1010, 4, .inl (va_cpy ((upd ((va_cpy (fb9) ((fun _ => 0)) 0 0 3)) 3 (vp_nar .byte (ns_ch x5).toInt8.toInt32))) (fun _ => 0) 0 0 4))), (q1008, .inr (0, [.ref q1009, .int 0, .int 0, .int 0]))]) hP hD [4, 7] [0, 1, 2, 3, 5, 6] rfl rfl (by decide) (by decide) hk1 hFc hP1 hD1
    have hK := (hK.sub (tys' := [(cyq1, .int), (cb9, .byte), (cy1007, .byte)]) [0, 1, 2] rfl).app hK1
    generalize H1 = H at hP hS ⊢
    have hP : va_P (dC, dI) vwCl [(h0, .inr (23, [.int 0, v1, v2, v3, .ref (g 34), v4, v5, v6, v7])), (q1, .inl (cyq1, 6, .inl (upd (upd (upd (upd (upd (upd (fun _ => 0) 0 x0) 1 x1) 2 x2) 3 x3) 4 x4) 5 x5))), (b9, .inl (cb9, 3, .inl fb9)), (t9, .inr (0, [.ref b9, .int 0, .int 0, .int 0])), (q1005, .inr (1, [.ref q1006, .int 0, .int 0, .int 4])), (q1006, .inl (cy1007, 16, .inl (upd ((va_cpy (fb9) ((fun _ => 0)) 0 0 3)) 3 (vp_nar .byte (ns_ch x5).toInt8.toInt32)))), (q1009, .inl (cy1010, 4, .inl (va_cpy ((upd ((va_cpy (fb9) ((fun _ => 0)) 0 0 3)) 3 (vp_nar .byte (ns_ch x5).toInt8.toInt32))) (fun _ => 0) 0 0 4))), (q1008, .inr (0, [.ref q1009, .int 0, .int 0, .int 0]))] H := hP
    have hD : va_D A [(h0, .inr (23, [.int 0, v1, v2, v3, .ref (g 34), v4, v5, v6, v7])), (q1, .inl (cyq1, 6, .inl (upd (upd (upd (upd (upd (upd (fun _ => 0) 0 x0) 1 x1) 2 x2) 3 x3) 4 x4) 5 x5))), (b9, .inl (cb9, 3, .inl fb9)), (t9, .inr (0, [.ref b9, .int 0, .int 0, .int 0])), (q1005, .inr (1, [.ref q1006, .int 0, .int 0, .int 4])), (q1006, .inl (cy1007, 16, .inl (upd ((va_cpy (fb9) ((fun _ => 0)) 0 0 3)) 3 (vp_nar .byte (ns_ch x5).toInt8.toInt32)))), (q1009, .inl (cy1010, 4, .inl (va_cpy ((upd ((va_cpy (fb9) ((fun _ => 0)) 0 0 3)) 3 (vp_nar .byte (ns_ch x5).toInt8.toInt32))) (fun _ => 0) 0 0 4))), (q1008, .inr (0, [.ref q1009, .int 0, .int 0, .int 0]))] := hD
    have hK : va_K (dC, dI) vwCl [(cyq1, .int), (cb9, .byte), (cy1007, .byte), (cy1010, .byte)] s := hK
    refine W.widen (k := 35) (n := 234) (Nat.le_of_ble_eq_true rfl) (Nat.le_of_ble_eq_true rfl) ?_
    refine lv_bipush (v := 60) hx hb dX16_say_148 (by decide) ?_
    refine lv_icmp_le (tgt := 157) hx hb dX16_say_150 (by decide) (fun c1011 => ?_) (fun c1011 => absurd (by decide) c1011)
    refine lv_iconst (v := 0) hx hb dX16_say_157 (by decide) ?_
    refine lv_iconst (v := 2) hx hb dX16_say_158 (by decide) ?_
    have hPc := hP.sub (ws' := [(h0, .inr (23, [.int 0, v1, v2, v3, .ref (g 34), v4, v5, v6, v7]))]) [0] rfl
    have hDc := hD.sub (ws' := [(h0, .inr (23, [.int 0, v1, v2, v3, .ref (g 34), v4, v5, v6, v7]))]) [0] (by decide) rfl
    have hKc := hK.sub (tys' := []) [] rfl
    have hFc := va_free (wc := [(h0, .inr (23, [.int 0, v1, v2, v3, .ref (g 34), v4, v5, v6, v7]))]) hD hS hA [0] rfl
    refine va_calli (va_runV (As := [.int 0, .int 2]) (rest := []) ⟨hx, hb, hml, hown, hts⟩ (kX16_refuse_3 l dC dI g H.size h0 v1 v2 v3 (.ref (g 34)) v4 v5 v6 v7 ) (cwV 2 hts (ns_gp (List.forall_mem_cons.mpr ⟨wm236, (List.forall_mem_cons.mpr ⟨wm237, (List.forall_mem_cons.mpr ⟨wm238, (List.forall_mem_cons.mpr ⟨wm192, (fun _ h9 => nomatch h9)⟩)⟩)⟩)⟩) wm235) rfl rfl rfl (by decide +kernel) ⟨Nat.le_of_ble_eq_true rfl, Nat.le_of_ble_eq_true rfl⟩) ⟨fun a U gg mk q => by obtain ⟨q0, q1, qP, qK, qD, qF⟩ := q; exact ⟨q0, q1, qP, va_K.moved (u := U) (U := U.calling gg mk a) (Vm.Alike.refl U.vm) qK, qD, ns_same qF⟩, va_recv hK hP (ci := 23) (q0 := 0) rfl rfl, fun U hU hW => ⟨rfl, by rw [hU], by rw [hU]; exact hPc, va_K.moved hW.alike hKc, hDc.weaken (fun _ _ _ _ => trivial), ns_call hF hS hFc hU hW⟩⟩ rfl rfl hl.1 rfl (lv_room (Nat.le_of_ble_eq_true rfl)) dX16_say_159 ⟨Nat.le_of_ble_eq_true rfl, Nat.le_of_ble_eq_true rfl⟩) hS (fun q _ h => hFc q h) hFc (fun r9 u t H1 locs ht hvm hw hB hz1 hk1 hS => ?_)
    obtain rfl := hw.symm
    obtain ⟨hP1, hK1, hD1⟩ := hB
    rw [ht] at hP1
    have hK1 := va_K.moved hvm.symm hK1
    obtain ⟨hP, hD⟩ := va_join (wr := [(q1, .inl (cyq1, 6, .inl (upd (upd (upd (upd (upd (upd (fun _ => 0) 0 x0) 1 x1) 2 x2) 3 x3) 4 x4) 5 x5))), (b9, .inl (cb9, 3, .inl fb9)), (t9, .inr (0, [.ref b9, .int 0, .int 0, .int 0])), (q1005, .inr (1, [.ref q1006, .int 0, .int 0, .int 4])), (q1006, .inl (cy1007, 16, .inl (upd ((va_cpy (fb9) ((fun _ => 0)) 0 0 3)) 3 (vp_nar .byte (ns_ch x5).toInt8.toInt32)))), (q1009, .inl (cy1010, 4, .inl (va_cpy ((upd ((va_cpy (fb9) ((fun _ => 0)) 0 0 3)) 3 (vp_nar .byte (ns_ch x5).toInt8.toInt32))) (fun _ => 0) 0 0 4))), (q1008, .inr (0, [.ref q1009, .int 0, .int 0, .int 0]))]) (w1 := [(h0, .inr (23, [.int 0, v1, v2, v3, .ref (g 34), v4, v5, v6, v7]))]) hP hD [0] [1, 2, 3, 4, 5, 6, 7] rfl rfl (by decide) (by decide) hk1 hFc hP1 hD1
    have hK := (hK.sub (tys' := [(cyq1, .int), (cb9, .byte), (cy1007, .byte), (cy1010, .byte)]) [0, 1, 2, 3] rfl).app hK1
    generalize H1 = H at hP hS ⊢
    have hP : va_P (dC, dI) vwCl [(q1, .inl (cyq1, 6, .inl (upd (upd (upd (upd (upd (upd (fun _ => 0) 0 x0) 1 x1) 2 x2) 3 x3) 4 x4) 5 x5))), (b9, .inl (cb9, 3, .inl fb9)), (t9, .inr (0, [.ref b9, .int 0, .int 0, .int 0])), (q1005, .inr (1, [.ref q1006, .int 0, .int 0, .int 4])), (q1006, .inl (cy1007, 16, .inl (upd ((va_cpy (fb9) ((fun _ => 0)) 0 0 3)) 3 (vp_nar .byte (ns_ch x5).toInt8.toInt32)))), (q1009, .inl (cy1010, 4, .inl (va_cpy ((upd ((va_cpy (fb9) ((fun _ => 0)) 0 0 3)) 3 (vp_nar .byte (ns_ch x5).toInt8.toInt32))) (fun _ => 0) 0 0 4))), (q1008, .inr (0, [.ref q1009, .int 0, .int 0, .int 0])), (h0, .inr (23, [.int 0, v1, v2, v3, .ref (g 34), v4, v5, v6, v7]))] H := hP
    have hD : va_D A [(q1, .inl (cyq1, 6, .inl (upd (upd (upd (upd (upd (upd (fun _ => 0) 0 x0) 1 x1) 2 x2) 3 x3) 4 x4) 5 x5))), (b9, .inl (cb9, 3, .inl fb9)), (t9, .inr (0, [.ref b9, .int 0, .int 0, .int 0])), (q1005, .inr (1, [.ref q1006, .int 0, .int 0, .int 4])), (q1006, .inl (cy1007, 16, .inl (upd ((va_cpy (fb9) ((fun _ => 0)) 0 0 3)) 3 (vp_nar .byte (ns_ch x5).toInt8.toInt32)))), (q1009, .inl (cy1010, 4, .inl (va_cpy ((upd ((va_cpy (fb9) ((fun _ => 0)) 0 0 3)) 3 (vp_nar .byte (ns_ch x5).toInt8.toInt32))) (fun _ => 0) 0 0 4))), (q1008, .inr (0, [.ref q1009, .int 0, .int 0, .int 0])), (h0, .inr (23, [.int 0, v1, v2, v3, .ref (g 34), v4, v5, v6, v7]))] := hD
    have hK : va_K (dC, dI) vwCl [(cyq1, .int), (cb9, .byte), (cy1007, .byte), (cy1010, .byte)] s := hK
    refine W.widen (k := 35) (n := 234) (Nat.le_of_ble_eq_true rfl) (Nat.le_of_ble_eq_true rfl) ?_
    refine lv_if_eq (tgt := 167) hx hb dX16_say_162 (by decide) (fun c1012 => ?_) (fun c1012 => absurd (by decide) c1012)
    refine lv_iinc (v := 6) (lv' := [(12, .int 6), (9, .ref q1008), (13, .int x5), (11, .int 6), (10, .ref q1), (0, .ref h0)]) hx hb dX16_say_167 hl (k := 2) rfl (by decide) (by decide) rfl (fun ls hl => ?_)
    refine lv_goto (tgt := 119) hx hb dX16_say_170 (by decide) ?_
    have hP := hP.sub (ws' := [(h0, .inr (23, [.int 0, v1, v2, v3, .ref (g 34), v4, v5, v6, v7])), (q1, .inl (cyq1, 6, .inl (upd (upd (upd (upd (upd (upd (fun _ => 0) 0 x0) 1 x1) 2 x2) 3 x3) 4 x4) 5 x5))), (q1008, .inr (0, [.ref q1009, .int 0, .int 0, .int 0])), (q1009, .inl (cy1010, 4, .inl (va_cpy ((upd ((va_cpy (fb9) ((fun _ => 0)) 0 0 3)) 3 (vp_nar .byte (ns_ch x5).toInt8.toInt32))) (fun _ => 0) 0 0 4)))]) [7, 0, 6, 5] rfl
    have hD := hD.sub (ws' := [(h0, .inr (23, [.int 0, v1, v2, v3, .ref (g 34), v4, v5, v6, v7])), (q1, .inl (cyq1, 6, .inl (upd (upd (upd (upd (upd (upd (fun _ => 0) 0 x0) 1 x1) 2 x2) 3 x3) 4 x4) 5 x5))), (q1008, .inr (0, [.ref q1009, .int 0, .int 0, .int 0])), (q1009, .inl (cy1010, 4, .inl (va_cpy ((upd ((va_cpy (fb9) ((fun _ => 0)) 0 0 3)) 3 (vp_nar .byte (ns_ch x5).toInt8.toInt32))) (fun _ => 0) 0 0 4)))]) [7, 0, 6, 5] (by decide) rfl
    have hK := hK.sub (tys' := [(cyq1, .int), (cy1010, .byte)]) [0, 3] rfl
    have hl := lv_sub hl (l' := [(12, .int 6), (11, .int 6), (10, .ref q1), (9, .ref q1008), (0, .ref h0)]) [0, 3, 4, 1, 5] rfl
    refine W.widen (k := 37) (n := 246) (Nat.le_of_ble_eq_true rfl) (Nat.le_of_ble_eq_true rfl) ?_
    have hE2 : ns_len E9 x5 = 4 := by rw [hE]; exact (ns_lenB x5 3 (by omega) (by omega)).trans (by decide)
    exact ns_say_6_4 (sb_fitC (sb_fitU (sb_fitC hb9 sb_fit0) (pk_fb _)) sb_fit0) hE2 ex0 ex1 ex2 ex3 ex4 ex5 hx hb hml hown hts hA hF hK hP hD hS hl k09 k19 k29 k39 k49 k59 k69
  · have _h9 := 0
    refine lv_aload hx hb dX16_say_133 (lv_at hl 4 rfl) ?_
    refine lv_iload hx hb dX16_say_135 (lv_at hl 0 rfl) ?_
    have hPc := hP.sub (ws' := [(t9, .inr (0, [.ref b9, .int 0, .int 0, .int 0])), (b9, .inl (cb9, 3, .inl fb9))]) [2, 3] rfl
    have hDc := hD.sub (ws' := [(t9, .inr (0, [.ref b9, .int 0, .int 0, .int 0])), (b9, .inl (cb9, 3, .inl fb9))]) [2, 3] (by decide) rfl
    have hKc := hK.sub (tys' := [(cb9, .byte)]) [1] rfl
    have hFc := va_free (wc := [(t9, .inr (0, [.ref b9, .int 0, .int 0, .int 0])), (b9, .inl (cb9, 3, .inl fb9))]) hD hS hA [2, 3] rfl
    refine va_callr (va_runS (As := [.ref t9, .int x5]) (rest := []) ⟨hx, hb, hml, hown, hts⟩ (kX16_said_12 l dC dI g H.size t9 x5 b9 (.int 0) (.int 0) cb9 fb9 hb9 ⟨by omega, by omega⟩) (va_cwS 2 hts (ns_gp (List.forall_mem_cons.mpr ⟨wm655, (List.forall_mem_cons.mpr ⟨wm656, (List.forall_mem_cons.mpr ⟨wm192, (fun _ h9 => nomatch h9)⟩)⟩)⟩) wm604) rfl rfl rfl (by decide +kernel) ⟨Nat.le_of_ble_eq_true rfl, Nat.le_of_ble_eq_true rfl⟩) ⟨fun a U gg mk q => by obtain ⟨q0, q1, qP, qK, qD, qF⟩ := q; exact ⟨q0, q1, qP, va_K.moved (u := U) (U := U.calling gg mk a) (Vm.Alike.refl U.vm) qK, qD, ns_same qF⟩, fun U hU hW => ⟨rfl, by rw [hU], by rw [hU]; exact hPc, va_K.moved hW.alike hKc, hDc.weaken (fun _ _ _ _ => trivial), ns_call hF hS hFc hU hW⟩⟩ rfl rfl hl.1 rfl (lv_room (Nat.le_of_ble_eq_true rfl)) dX16_say_137 ⟨Nat.le_of_ble_eq_true rfl, Nat.le_of_ble_eq_true rfl⟩) hS (fun q _ h => hFc q h) hFc (fun u r9 t H1 locs ht hvm hw hB hz1 hk1 hS => ?_)
    obtain ⟨q1013, q1014, cy1015, hr9, hP1, hK1, hD1⟩ := hB
    obtain rfl := hr9.symm
    rw [ht] at hP1
    have hK1 := va_K.moved hvm.symm hK1
    obtain ⟨hP, hD⟩ := va_join (wr := [(h0, .inr (23, [.int 0, v1, v2, v3, .ref (g 34), v4, v5, v6, v7])), (q1, .inl (cyq1, 6, .inl (upd (upd (upd (upd (upd (upd (fun _ => 0) 0 x0) 1 x1) 2 x2) 3 x3) 4 x4) 5 x5)))]) (w1 := [(t9, .inr (0, [.ref b9, .int 0, .int 0, .int 0])), (b9, .inl (cb9, 3, .inl fb9)), (q1014, .inl (cy1015, 2, .inl (va_cpy (fb9) (fun _ => 0) 0 0 2))), (q1013, .inr (0, [.ref q1014, .int 0, .int 0, .int 0]))]) hP hD [2, 3] [0, 1] rfl rfl (by decide) (by decide) hk1 hFc hP1 hD1
    have hK := (hK.sub (tys' := [(cyq1, .int)]) [0] rfl).app hK1
    generalize H1 = H at hP hS ⊢
    have hP : va_P (dC, dI) vwCl [(h0, .inr (23, [.int 0, v1, v2, v3, .ref (g 34), v4, v5, v6, v7])), (q1, .inl (cyq1, 6, .inl (upd (upd (upd (upd (upd (upd (fun _ => 0) 0 x0) 1 x1) 2 x2) 3 x3) 4 x4) 5 x5))), (t9, .inr (0, [.ref b9, .int 0, .int 0, .int 0])), (b9, .inl (cb9, 3, .inl fb9)), (q1014, .inl (cy1015, 2, .inl (va_cpy (fb9) (fun _ => 0) 0 0 2))), (q1013, .inr (0, [.ref q1014, .int 0, .int 0, .int 0]))] H := hP
    have hD : va_D A [(h0, .inr (23, [.int 0, v1, v2, v3, .ref (g 34), v4, v5, v6, v7])), (q1, .inl (cyq1, 6, .inl (upd (upd (upd (upd (upd (upd (fun _ => 0) 0 x0) 1 x1) 2 x2) 3 x3) 4 x4) 5 x5))), (t9, .inr (0, [.ref b9, .int 0, .int 0, .int 0])), (b9, .inl (cb9, 3, .inl fb9)), (q1014, .inl (cy1015, 2, .inl (va_cpy (fb9) (fun _ => 0) 0 0 2))), (q1013, .inr (0, [.ref q1014, .int 0, .int 0, .int 0]))] := hD
    have hK : va_K (dC, dI) vwCl [(cyq1, .int), (cb9, .byte), (cy1015, .byte)] s := hK
    refine W.widen (k := 33) (n := 212) (Nat.le_of_ble_eq_true rfl) (Nat.le_of_ble_eq_true rfl) ?_
    refine lv_astore (lv' := [(9, .ref q1013), (13, .int x5), (12, .int 5), (11, .int 6), (10, .ref q1), (0, .ref h0)]) hx hb dX16_say_140 hl (by decide) rfl (fun ls hl => ?_)
    refine lv_aload_n hx hb dX16_say_142 rfl (lv_at hl 5 rfl) ?_
    refine lv_aload hx hb dX16_say_143 (lv_at hl 0 rfl) ?_
    have hPc := hP.sub (ws' := [(q1013, .inr (0, [.ref q1014, .int 0, .int 0, .int 0])), (q1014, .inl (cy1015, 2, .inl (va_cpy (fb9) (fun _ => 0) 0 0 2)))]) [5, 4] rfl
    have hDc := hD.sub (ws' := [(q1013, .inr (0, [.ref q1014, .int 0, .int 0, .int 0])), (q1014, .inl (cy1015, 2, .inl (va_cpy (fb9) (fun _ => 0) 0 0 2)))]) [5, 4] (by decide) rfl
    have hKc := hK.sub (tys' := [(cy1015, .byte)]) [2] rfl
    have hFc := va_free (wc := [(q1013, .inr (0, [.ref q1014, .int 0, .int 0, .int 0])), (q1014, .inl (cy1015, 2, .inl (va_cpy (fb9) (fun _ => 0) 0 0 2)))]) hD hS hA [5, 4] rfl
    refine va_calli (va_runV (As := []) (rest := [.ref h0]) ⟨hx, hb, hml, hown, hts⟩ (kJ0_length_8abf5_4 l dC dI g H.size q1013 q1014 (.int 0) (.int 0) cy1015 (va_cpy (fb9) (fun _ => 0) 0 0 2) (sb_fitC hb9 sb_fit0) ) (cwV 0 hts (ns_gp (List.forall_mem_cons.mpr ⟨wm646, (List.forall_mem_cons.mpr ⟨wm595, (List.forall_mem_cons.mpr ⟨wm596, (List.forall_mem_cons.mpr ⟨wm316, (fun _ h9 => nomatch h9)⟩)⟩)⟩)⟩) wm574) rfl rfl rfl (by decide +kernel) ⟨Nat.le_of_ble_eq_true rfl, Nat.le_of_ble_eq_true rfl⟩) ⟨fun a U gg mk q => by obtain ⟨q0, q1, qP, qK, qD, qF⟩ := q; exact ⟨q0, q1, qP, va_K.moved (u := U) (U := U.calling gg mk a) (Vm.Alike.refl U.vm) qK, qD, ns_same qF⟩, va_recv hK hP (ci := 0) (q0 := 5) rfl rfl, fun U hU hW => ⟨rfl, by rw [hU], by rw [hU]; exact hPc, va_K.moved hW.alike hKc, hDc.weaken (fun _ _ _ _ => trivial), ns_call hF hS hFc hU hW⟩⟩ rfl rfl hl.1 rfl (lv_room (Nat.le_of_ble_eq_true rfl)) dX16_say_145 ⟨Nat.le_of_ble_eq_true rfl, Nat.le_of_ble_eq_true rfl⟩) hS (fun q _ h => hFc q h) hFc (fun r9 u t H1 locs ht hvm hw hB hz1 hk1 hS => ?_)
    obtain rfl := hw.symm
    obtain ⟨hP1, hK1, hD1⟩ := hB
    rw [ht] at hP1
    have hK1 := va_K.moved hvm.symm hK1
    obtain ⟨hP, hD⟩ := va_join (wr := [(h0, .inr (23, [.int 0, v1, v2, v3, .ref (g 34), v4, v5, v6, v7])), (q1, .inl (cyq1, 6, .inl (upd (upd (upd (upd (upd (upd (fun _ => 0) 0 x0) 1 x1) 2 x2) 3 x3) 4 x4) 5 x5))), (t9, .inr (0, [.ref b9, .int 0, .int 0, .int 0])), (b9, .inl (cb9, 3, .inl fb9))]) (w1 := [(q1014, .inl (cy1015, 2, .inl (va_cpy (fb9) (fun _ => 0) 0 0 2))), (q1013, .inr (0, [.ref q1014, .int 0, .int 0, .int 0]))]) hP hD [5, 4] [0, 1, 2, 3] rfl rfl (by decide) (by decide) hk1 hFc hP1 hD1
    have hK := (hK.sub (tys' := [(cyq1, .int), (cb9, .byte)]) [0, 1] rfl).app hK1
    generalize H1 = H at hP hS ⊢
    have hP : va_P (dC, dI) vwCl [(h0, .inr (23, [.int 0, v1, v2, v3, .ref (g 34), v4, v5, v6, v7])), (q1, .inl (cyq1, 6, .inl (upd (upd (upd (upd (upd (upd (fun _ => 0) 0 x0) 1 x1) 2 x2) 3 x3) 4 x4) 5 x5))), (t9, .inr (0, [.ref b9, .int 0, .int 0, .int 0])), (b9, .inl (cb9, 3, .inl fb9)), (q1014, .inl (cy1015, 2, .inl (va_cpy (fb9) (fun _ => 0) 0 0 2))), (q1013, .inr (0, [.ref q1014, .int 0, .int 0, .int 0]))] H := hP
    have hD : va_D A [(h0, .inr (23, [.int 0, v1, v2, v3, .ref (g 34), v4, v5, v6, v7])), (q1, .inl (cyq1, 6, .inl (upd (upd (upd (upd (upd (upd (fun _ => 0) 0 x0) 1 x1) 2 x2) 3 x3) 4 x4) 5 x5))), (t9, .inr (0, [.ref b9, .int 0, .int 0, .int 0])), (b9, .inl (cb9, 3, .inl fb9)), (q1014, .inl (cy1015, 2, .inl (va_cpy (fb9) (fun _ => 0) 0 0 2))), (q1013, .inr (0, [.ref q1014, .int 0, .int 0, .int 0]))] := hD
    have hK : va_K (dC, dI) vwCl [(cyq1, .int), (cb9, .byte), (cy1015, .byte)] s := hK
    refine W.widen (k := 33) (n := 212) (Nat.le_of_ble_eq_true rfl) (Nat.le_of_ble_eq_true rfl) ?_
    refine lv_bipush (v := 60) hx hb dX16_say_148 (by decide) ?_
    refine lv_icmp_le (tgt := 157) hx hb dX16_say_150 (by decide) (fun c1016 => ?_) (fun c1016 => absurd (by decide) c1016)
    refine lv_iconst (v := 0) hx hb dX16_say_157 (by decide) ?_
    refine lv_iconst (v := 2) hx hb dX16_say_158 (by decide) ?_
    have hPc := hP.sub (ws' := [(h0, .inr (23, [.int 0, v1, v2, v3, .ref (g 34), v4, v5, v6, v7]))]) [0] rfl
    have hDc := hD.sub (ws' := [(h0, .inr (23, [.int 0, v1, v2, v3, .ref (g 34), v4, v5, v6, v7]))]) [0] (by decide) rfl
    have hKc := hK.sub (tys' := []) [] rfl
    have hFc := va_free (wc := [(h0, .inr (23, [.int 0, v1, v2, v3, .ref (g 34), v4, v5, v6, v7]))]) hD hS hA [0] rfl
    refine va_calli (va_runV (As := [.int 0, .int 2]) (rest := []) ⟨hx, hb, hml, hown, hts⟩ (kX16_refuse_3 l dC dI g H.size h0 v1 v2 v3 (.ref (g 34)) v4 v5 v6 v7 ) (cwV 2 hts (ns_gp (List.forall_mem_cons.mpr ⟨wm236, (List.forall_mem_cons.mpr ⟨wm237, (List.forall_mem_cons.mpr ⟨wm238, (List.forall_mem_cons.mpr ⟨wm192, (fun _ h9 => nomatch h9)⟩)⟩)⟩)⟩) wm235) rfl rfl rfl (by decide +kernel) ⟨Nat.le_of_ble_eq_true rfl, Nat.le_of_ble_eq_true rfl⟩) ⟨fun a U gg mk q => by obtain ⟨q0, q1, qP, qK, qD, qF⟩ := q; exact ⟨q0, q1, qP, va_K.moved (u := U) (U := U.calling gg mk a) (Vm.Alike.refl U.vm) qK, qD, ns_same qF⟩, va_recv hK hP (ci := 23) (q0 := 0) rfl rfl, fun U hU hW => ⟨rfl, by rw [hU], by rw [hU]; exact hPc, va_K.moved hW.alike hKc, hDc.weaken (fun _ _ _ _ => trivial), ns_call hF hS hFc hU hW⟩⟩ rfl rfl hl.1 rfl (lv_room (Nat.le_of_ble_eq_true rfl)) dX16_say_159 ⟨Nat.le_of_ble_eq_true rfl, Nat.le_of_ble_eq_true rfl⟩) hS (fun q _ h => hFc q h) hFc (fun r9 u t H1 locs ht hvm hw hB hz1 hk1 hS => ?_)
    obtain rfl := hw.symm
    obtain ⟨hP1, hK1, hD1⟩ := hB
    rw [ht] at hP1
    have hK1 := va_K.moved hvm.symm hK1
    obtain ⟨hP, hD⟩ := va_join (wr := [(q1, .inl (cyq1, 6, .inl (upd (upd (upd (upd (upd (upd (fun _ => 0) 0 x0) 1 x1) 2 x2) 3 x3) 4 x4) 5 x5))), (t9, .inr (0, [.ref b9, .int 0, .int 0, .int 0])), (b9, .inl (cb9, 3, .inl fb9)), (q1014, .inl (cy1015, 2, .inl (va_cpy (fb9) (fun _ => 0) 0 0 2))), (q1013, .inr (0, [.ref q1014, .int 0, .int 0, .int 0]))]) (w1 := [(h0, .inr (23, [.int 0, v1, v2, v3, .ref (g 34), v4, v5, v6, v7]))]) hP hD [0] [1, 2, 3, 4, 5] rfl rfl (by decide) (by decide) hk1 hFc hP1 hD1
    have hK := (hK.sub (tys' := [(cyq1, .int), (cb9, .byte), (cy1015, .byte)]) [0, 1, 2] rfl).app hK1
    generalize H1 = H at hP hS ⊢
    have hP : va_P (dC, dI) vwCl [(q1, .inl (cyq1, 6, .inl (upd (upd (upd (upd (upd (upd (fun _ => 0) 0 x0) 1 x1) 2 x2) 3 x3) 4 x4) 5 x5))), (t9, .inr (0, [.ref b9, .int 0, .int 0, .int 0])), (b9, .inl (cb9, 3, .inl fb9)), (q1014, .inl (cy1015, 2, .inl (va_cpy (fb9) (fun _ => 0) 0 0 2))), (q1013, .inr (0, [.ref q1014, .int 0, .int 0, .int 0])), (h0, .inr (23, [.int 0, v1, v2, v3, .ref (g 34), v4, v5, v6, v7]))] H := hP
    have hD : va_D A [(q1, .inl (cyq1, 6, .inl (upd (upd (upd (upd (upd (upd (fun _ => 0) 0 x0) 1 x1) 2 x2) 3 x3) 4 x4) 5 x5))), (t9, .inr (0, [.ref b9, .int 0, .int 0, .int 0])), (b9, .inl (cb9, 3, .inl fb9)), (q1014, .inl (cy1015, 2, .inl (va_cpy (fb9) (fun _ => 0) 0 0 2))), (q1013, .inr (0, [.ref q1014, .int 0, .int 0, .int 0])), (h0, .inr (23, [.int 0, v1, v2, v3, .ref (g 34), v4, v5, v6, v7]))] := hD
    have hK : va_K (dC, dI) vwCl [(cyq1, .int), (cb9, .byte), (cy1015, .byte)] s := hK
    refine W.widen (k := 33) (n := 212) (Nat.le_of_ble_eq_true rfl) (Nat.le_of_ble_eq_true rfl) ?_
    refine lv_if_eq (tgt := 167) hx hb dX16_say_162 (by decide) (fun c1017 => ?_) (fun c1017 => absurd (by decide) c1017)
    refine lv_iinc (v := 6) (lv' := [(12, .int 6), (9, .ref q1013), (13, .int x5), (11, .int 6), (10, .ref q1), (0, .ref h0)]) hx hb dX16_say_167 hl (k := 2) rfl (by decide) (by decide) rfl (fun ls hl => ?_)
    refine lv_goto (tgt := 119) hx hb dX16_say_170 (by decide) ?_
    have hP := hP.sub (ws' := [(h0, .inr (23, [.int 0, v1, v2, v3, .ref (g 34), v4, v5, v6, v7])), (q1, .inl (cyq1, 6, .inl (upd (upd (upd (upd (upd (upd (fun _ => 0) 0 x0) 1 x1) 2 x2) 3 x3) 4 x4) 5 x5))), (q1013, .inr (0, [.ref q1014, .int 0, .int 0, .int 0])), (q1014, .inl (cy1015, 2, .inl (va_cpy (fb9) (fun _ => 0) 0 0 2)))]) [5, 0, 4, 3] rfl
    have hD := hD.sub (ws' := [(h0, .inr (23, [.int 0, v1, v2, v3, .ref (g 34), v4, v5, v6, v7])), (q1, .inl (cyq1, 6, .inl (upd (upd (upd (upd (upd (upd (fun _ => 0) 0 x0) 1 x1) 2 x2) 3 x3) 4 x4) 5 x5))), (q1013, .inr (0, [.ref q1014, .int 0, .int 0, .int 0])), (q1014, .inl (cy1015, 2, .inl (va_cpy (fb9) (fun _ => 0) 0 0 2)))]) [5, 0, 4, 3] (by decide) rfl
    have hK := hK.sub (tys' := [(cyq1, .int), (cy1015, .byte)]) [0, 2] rfl
    have hl := lv_sub hl (l' := [(12, .int 6), (11, .int 6), (10, .ref q1), (9, .ref q1013), (0, .ref h0)]) [0, 3, 4, 1, 5] rfl
    refine W.widen (k := 37) (n := 246) (Nat.le_of_ble_eq_true rfl) (Nat.le_of_ble_eq_true rfl) ?_
    have hE2 : ns_len E9 x5 = 2 := by rw [hE]; exact (ns_lenC x5 3 (by decide) (by omega)).trans (by decide)
    exact ns_say_6_2 (sb_fitC hb9 sb_fit0) hE2 ex0 ex1 ex2 ex3 ex4 ex5 hx hb hml hown hts hA hF hK hP hD hS hl k09 k19 k29 k39 k49 k59 k69
  · have _h9 := 0
    refine lv_aload hx hb dX16_say_133 (lv_at hl 4 rfl) ?_
    refine lv_iload hx hb dX16_say_135 (lv_at hl 0 rfl) ?_
    have hPc := hP.sub (ws' := []) [] rfl
    have hDc := hD.sub (ws' := []) [] (by decide) rfl
    have hKc := hK.sub (tys' := []) [] rfl
    have hFc := va_free (wc := []) hD hS hA [] rfl
    refine va_callr (va_runS (As := [.ref t9, .int x5]) (rest := []) ⟨hx, hb, hml, hown, hts⟩ (kX16_said_8 l dC dI g H.size t9 x5 ⟨by omega, by omega⟩) (va_cwS 2 hts (ns_gp (List.forall_mem_cons.mpr ⟨wm655, (List.forall_mem_cons.mpr ⟨wm656, (List.forall_mem_cons.mpr ⟨wm192, (fun _ h9 => nomatch h9)⟩)⟩)⟩) wm604) rfl rfl rfl (by decide +kernel) ⟨Nat.le_of_ble_eq_true rfl, Nat.le_of_ble_eq_true rfl⟩) ⟨fun a U gg mk q => by obtain ⟨q0, q1, qP, qK, qD, qF⟩ := q; exact ⟨q0, q1, qP, va_K.moved (u := U) (U := U.calling gg mk a) (Vm.Alike.refl U.vm) qK, qD, ns_same qF⟩, fun U hU hW => ⟨rfl, by rw [hU], by rw [hU]; exact hPc, va_K.moved hW.alike hKc, hDc.weaken (fun _ _ _ _ => trivial), ns_call hF hS hFc hU hW⟩⟩ rfl rfl hl.1 rfl (lv_room (Nat.le_of_ble_eq_true rfl)) dX16_say_137 ⟨Nat.le_of_ble_eq_true rfl, Nat.le_of_ble_eq_true rfl⟩) hS (fun q _ h => hFc q h) hFc (fun u r9 t H1 locs ht hvm hw hB hz1 hk1 hS => ?_)
    obtain ⟨hr9, hP1, hK1, hD1⟩ := hB
    obtain rfl := hr9.symm
    rw [ht] at hP1
    have hK1 := va_K.moved hvm.symm hK1
    obtain ⟨hP, hD⟩ := va_join (wr := [(h0, .inr (23, [.int 0, v1, v2, v3, .ref (g 34), v4, v5, v6, v7])), (q1, .inl (cyq1, 6, .inl (upd (upd (upd (upd (upd (upd (fun _ => 0) 0 x0) 1 x1) 2 x2) 3 x3) 4 x4) 5 x5))), (t9, .inr (0, [.ref b9, .int 0, .int 0, .int 0])), (b9, .inl (cb9, 3, .inl fb9))]) (w1 := []) hP hD [] [0, 1, 2, 3] rfl rfl (by decide) (by decide) hk1 hFc hP1 hD1
    have hK := (hK.sub (tys' := [(cyq1, .int), (cb9, .byte)]) [0, 1] rfl).app hK1
    generalize H1 = H at hP hS ⊢
    have hP : va_P (dC, dI) vwCl [(h0, .inr (23, [.int 0, v1, v2, v3, .ref (g 34), v4, v5, v6, v7])), (q1, .inl (cyq1, 6, .inl (upd (upd (upd (upd (upd (upd (fun _ => 0) 0 x0) 1 x1) 2 x2) 3 x3) 4 x4) 5 x5))), (t9, .inr (0, [.ref b9, .int 0, .int 0, .int 0])), (b9, .inl (cb9, 3, .inl fb9))] H := hP
    have hD : va_D A [(h0, .inr (23, [.int 0, v1, v2, v3, .ref (g 34), v4, v5, v6, v7])), (q1, .inl (cyq1, 6, .inl (upd (upd (upd (upd (upd (upd (fun _ => 0) 0 x0) 1 x1) 2 x2) 3 x3) 4 x4) 5 x5))), (t9, .inr (0, [.ref b9, .int 0, .int 0, .int 0])), (b9, .inl (cb9, 3, .inl fb9))] := hD
    have hK : va_K (dC, dI) vwCl [(cyq1, .int), (cb9, .byte)] s := hK
    refine W.widen (k := 31) (n := 206) (Nat.le_of_ble_eq_true rfl) (Nat.le_of_ble_eq_true rfl) ?_
    refine lv_astore (lv' := [(9, .ref (g 34)), (13, .int x5), (12, .int 5), (11, .int 6), (10, .ref q1), (0, .ref h0)]) hx hb dX16_say_140 hl (by decide) rfl (fun ls hl => ?_)
    refine lv_aload_n hx hb dX16_say_142 rfl (lv_at hl 5 rfl) ?_
    refine lv_aload hx hb dX16_say_143 (lv_at hl 0 rfl) ?_
    have hPc := hP.sub (ws' := []) [] rfl
    have hDc := hD.sub (ws' := []) [] (by decide) rfl
    have hKc := hK.sub (tys' := []) [] rfl
    have hFc := va_free (wc := []) hD hS hA [] rfl
    refine va_calli (va_runV (As := []) (rest := [.ref h0]) ⟨hx, hb, hml, hown, hts⟩ (kJ0_length_8abf5_2 l dC dI g H.size  ) (cwV 0 hts (ns_gp (List.forall_mem_cons.mpr ⟨wm646, (List.forall_mem_cons.mpr ⟨wm595, (List.forall_mem_cons.mpr ⟨wm596, (List.forall_mem_cons.mpr ⟨wm316, (fun _ h9 => nomatch h9)⟩)⟩)⟩)⟩) wm574) rfl rfl rfl (by decide +kernel) ⟨Nat.le_of_ble_eq_true rfl, Nat.le_of_ble_eq_true rfl⟩) ⟨fun a U gg mk q => by obtain ⟨q0, q1, qP, qK, qD, qF⟩ := q; exact ⟨q0, q1, qP, va_K.moved (u := U) (U := U.calling gg mk a) (Vm.Alike.refl U.vm) qK, qD, ns_same qF⟩, va_Orecv (ns_f38 hF) hS, fun U hU hW => ⟨rfl, by rw [hU], by rw [hU]; exact hPc, va_K.moved hW.alike hKc, hDc.weaken (fun _ _ _ _ => trivial), ns_call hF hS hFc hU hW⟩⟩ rfl rfl hl.1 rfl (lv_room (Nat.le_of_ble_eq_true rfl)) dX16_say_145 ⟨Nat.le_of_ble_eq_true rfl, Nat.le_of_ble_eq_true rfl⟩) hS (fun q _ h => hFc q h) hFc (fun r9 u t H1 locs ht hvm hw hB hz1 hk1 hS => ?_)
    obtain rfl := hw.symm
    obtain ⟨hP1, hK1, hD1⟩ := hB
    rw [ht] at hP1
    have hK1 := va_K.moved hvm.symm hK1
    obtain ⟨hP, hD⟩ := va_join (wr := [(h0, .inr (23, [.int 0, v1, v2, v3, .ref (g 34), v4, v5, v6, v7])), (q1, .inl (cyq1, 6, .inl (upd (upd (upd (upd (upd (upd (fun _ => 0) 0 x0) 1 x1) 2 x2) 3 x3) 4 x4) 5 x5))), (t9, .inr (0, [.ref b9, .int 0, .int 0, .int 0])), (b9, .inl (cb9, 3, .inl fb9))]) (w1 := []) hP hD [] [0, 1, 2, 3] rfl rfl (by decide) (by decide) hk1 hFc hP1 hD1
    have hK := (hK.sub (tys' := [(cyq1, .int), (cb9, .byte)]) [0, 1] rfl).app hK1
    generalize H1 = H at hP hS ⊢
    have hP : va_P (dC, dI) vwCl [(h0, .inr (23, [.int 0, v1, v2, v3, .ref (g 34), v4, v5, v6, v7])), (q1, .inl (cyq1, 6, .inl (upd (upd (upd (upd (upd (upd (fun _ => 0) 0 x0) 1 x1) 2 x2) 3 x3) 4 x4) 5 x5))), (t9, .inr (0, [.ref b9, .int 0, .int 0, .int 0])), (b9, .inl (cb9, 3, .inl fb9))] H := hP
    have hD : va_D A [(h0, .inr (23, [.int 0, v1, v2, v3, .ref (g 34), v4, v5, v6, v7])), (q1, .inl (cyq1, 6, .inl (upd (upd (upd (upd (upd (upd (fun _ => 0) 0 x0) 1 x1) 2 x2) 3 x3) 4 x4) 5 x5))), (t9, .inr (0, [.ref b9, .int 0, .int 0, .int 0])), (b9, .inl (cb9, 3, .inl fb9))] := hD
    have hK : va_K (dC, dI) vwCl [(cyq1, .int), (cb9, .byte)] s := hK
    refine W.widen (k := 31) (n := 206) (Nat.le_of_ble_eq_true rfl) (Nat.le_of_ble_eq_true rfl) ?_
    refine lv_bipush (v := 60) hx hb dX16_say_148 (by decide) ?_
    refine lv_icmp_le (tgt := 157) hx hb dX16_say_150 (by decide) (fun c1018 => ?_) (fun c1018 => absurd (by decide) c1018)
    refine lv_iconst (v := 0) hx hb dX16_say_157 (by decide) ?_
    refine lv_iconst (v := 2) hx hb dX16_say_158 (by decide) ?_
    have hPc := hP.sub (ws' := [(h0, .inr (23, [.int 0, v1, v2, v3, .ref (g 34), v4, v5, v6, v7]))]) [0] rfl
    have hDc := hD.sub (ws' := [(h0, .inr (23, [.int 0, v1, v2, v3, .ref (g 34), v4, v5, v6, v7]))]) [0] (by decide) rfl
    have hKc := hK.sub (tys' := []) [] rfl
    have hFc := va_free (wc := [(h0, .inr (23, [.int 0, v1, v2, v3, .ref (g 34), v4, v5, v6, v7]))]) hD hS hA [0] rfl
    refine va_calli (va_runV (As := [.int 0, .int 2]) (rest := []) ⟨hx, hb, hml, hown, hts⟩ (kX16_refuse_3 l dC dI g H.size h0 v1 v2 v3 (.ref (g 34)) v4 v5 v6 v7 ) (cwV 2 hts (ns_gp (List.forall_mem_cons.mpr ⟨wm236, (List.forall_mem_cons.mpr ⟨wm237, (List.forall_mem_cons.mpr ⟨wm238, (List.forall_mem_cons.mpr ⟨wm192, (fun _ h9 => nomatch h9)⟩)⟩)⟩)⟩) wm235) rfl rfl rfl (by decide +kernel) ⟨Nat.le_of_ble_eq_true rfl, Nat.le_of_ble_eq_true rfl⟩) ⟨fun a U gg mk q => by obtain ⟨q0, q1, qP, qK, qD, qF⟩ := q; exact ⟨q0, q1, qP, va_K.moved (u := U) (U := U.calling gg mk a) (Vm.Alike.refl U.vm) qK, qD, ns_same qF⟩, va_recv hK hP (ci := 23) (q0 := 0) rfl rfl, fun U hU hW => ⟨rfl, by rw [hU], by rw [hU]; exact hPc, va_K.moved hW.alike hKc, hDc.weaken (fun _ _ _ _ => trivial), ns_call hF hS hFc hU hW⟩⟩ rfl rfl hl.1 rfl (lv_room (Nat.le_of_ble_eq_true rfl)) dX16_say_159 ⟨Nat.le_of_ble_eq_true rfl, Nat.le_of_ble_eq_true rfl⟩) hS (fun q _ h => hFc q h) hFc (fun r9 u t H1 locs ht hvm hw hB hz1 hk1 hS => ?_)
    obtain rfl := hw.symm
    obtain ⟨hP1, hK1, hD1⟩ := hB
    rw [ht] at hP1
    have hK1 := va_K.moved hvm.symm hK1
    obtain ⟨hP, hD⟩ := va_join (wr := [(q1, .inl (cyq1, 6, .inl (upd (upd (upd (upd (upd (upd (fun _ => 0) 0 x0) 1 x1) 2 x2) 3 x3) 4 x4) 5 x5))), (t9, .inr (0, [.ref b9, .int 0, .int 0, .int 0])), (b9, .inl (cb9, 3, .inl fb9))]) (w1 := [(h0, .inr (23, [.int 0, v1, v2, v3, .ref (g 34), v4, v5, v6, v7]))]) hP hD [0] [1, 2, 3] rfl rfl (by decide) (by decide) hk1 hFc hP1 hD1
    have hK := (hK.sub (tys' := [(cyq1, .int), (cb9, .byte)]) [0, 1] rfl).app hK1
    generalize H1 = H at hP hS ⊢
    have hP : va_P (dC, dI) vwCl [(q1, .inl (cyq1, 6, .inl (upd (upd (upd (upd (upd (upd (fun _ => 0) 0 x0) 1 x1) 2 x2) 3 x3) 4 x4) 5 x5))), (t9, .inr (0, [.ref b9, .int 0, .int 0, .int 0])), (b9, .inl (cb9, 3, .inl fb9)), (h0, .inr (23, [.int 0, v1, v2, v3, .ref (g 34), v4, v5, v6, v7]))] H := hP
    have hD : va_D A [(q1, .inl (cyq1, 6, .inl (upd (upd (upd (upd (upd (upd (fun _ => 0) 0 x0) 1 x1) 2 x2) 3 x3) 4 x4) 5 x5))), (t9, .inr (0, [.ref b9, .int 0, .int 0, .int 0])), (b9, .inl (cb9, 3, .inl fb9)), (h0, .inr (23, [.int 0, v1, v2, v3, .ref (g 34), v4, v5, v6, v7]))] := hD
    have hK : va_K (dC, dI) vwCl [(cyq1, .int), (cb9, .byte)] s := hK
    refine W.widen (k := 31) (n := 206) (Nat.le_of_ble_eq_true rfl) (Nat.le_of_ble_eq_true rfl) ?_
    refine lv_if_eq (tgt := 167) hx hb dX16_say_162 (by decide) (fun c1019 => ?_) (fun c1019 => absurd (by decide) c1019)
    refine lv_iinc (v := 6) (lv' := [(12, .int 6), (9, .ref (g 34)), (13, .int x5), (11, .int 6), (10, .ref q1), (0, .ref h0)]) hx hb dX16_say_167 hl (k := 2) rfl (by decide) (by decide) rfl (fun ls hl => ?_)
    refine lv_goto (tgt := 119) hx hb dX16_say_170 (by decide) ?_
    have hP := hP.sub (ws' := [(h0, .inr (23, [.int 0, v1, v2, v3, .ref (g 34), v4, v5, v6, v7])), (q1, .inl (cyq1, 6, .inl (upd (upd (upd (upd (upd (upd (fun _ => 0) 0 x0) 1 x1) 2 x2) 3 x3) 4 x4) 5 x5)))]) [3, 0] rfl
    have hD := hD.sub (ws' := [(h0, .inr (23, [.int 0, v1, v2, v3, .ref (g 34), v4, v5, v6, v7])), (q1, .inl (cyq1, 6, .inl (upd (upd (upd (upd (upd (upd (fun _ => 0) 0 x0) 1 x1) 2 x2) 3 x3) 4 x4) 5 x5)))]) [3, 0] (by decide) rfl
    have hK := hK.sub (tys' := [(cyq1, .int)]) [0] rfl
    have hl := lv_sub hl (l' := [(12, .int 6), (11, .int 6), (10, .ref q1), (9, .ref (g 34)), (0, .ref h0)]) [0, 3, 4, 1, 5] rfl
    refine W.widen (k := 37) (n := 246) (Nat.le_of_ble_eq_true rfl) (Nat.le_of_ble_eq_true rfl) ?_
    have hE2 : ns_len E9 x5 = 0 := by rw [hE]; exact ns_lenD x5 3 (by omega)
    exact ns_say_6_0 hE2 ex0 ex1 ex2 ex3 ex4 ex5 hx hb hml hown hts hA hF hK hP hD hS hl k09 k19 k29 k39 k49 k59 k69
set_option maxHeartbeats 4000000 in
set_option maxRecDepth 100000 in
theorem kX9_typed (l : Launch) (dC : Nat → ClassId) (dI : Nat → Nat → Nat) (g : Nat → Nat) (sz : Nat) (h0 : Nat) (h1 : Nat) (h2 : Nat) (h3 : Nat) (v0 : Value) (v1 : Value) (v2 : Value) (v3 : Value) (v4 : Value) (v5 : Value) (v6 : Value) (v7 : Value) (v8 : Value) (v9 : Value) (v10 : Value) (v11 : Value) (v12 : Value) (v13 : Value) (v14 : Value) (cc0 : ClassId) (f0 : Nat → Int32) (hf0 : sb_Fit f0) (v15 : Value) : Met l yX9_typed wbX9_typed ({ frames := 7, cells := 2, slots := 4, locals := 173 }) (va_Pc [.ref h0] (fun U => U.heap.size = sz ∧ va_P (dC, dI) vwCl [(h0, .inr (16, [v0, .ref h3, v1, v2, v3, v4, v5, v6, .ref h1, v7, v8, v9, v10, v11, v12, v13])), (h1, .inr (1, [.ref h2, .int 0, v14, .int 0])), (h2, .inl (cc0, 16, .inl f0)), (h3, .inr (11, [v15, .int 0]))] U.heap ∧ va_K (dC, dI) vwCl [(cc0, .byte)] U ∧ va_D (fun _ => True) [(h0, .inr (16, [v0, .ref h3, v1, v2, v3, v4, v5, v6, .ref h1, v7, v8, v9, v10, v11, v12, v13])), (h1, .inr (1, [.ref h2, .int 0, v14, .int 0])), (h2, .inl (cc0, 16, .inl f0)), (h3, .inr (11, [v15, .int 0]))] ∧ ns_F g (va_A [(h0, .inr (16, [v0, .ref h3, v1, v2, v3, v4, v5, v6, .ref h1, v7, v8, v9, v10, v11, v12, v13])), (h1, .inr (1, [.ref h2, .int 0, v14, .int 0])), (h2, .inl (cc0, 16, .inl f0)), (h3, .inr (11, [v15, .int 0]))] sz) U U.heap)) (va_Qr (fun _ : Unit => True) (fun _ r t => ∃ k0 : Nat, ∃ k1 : Nat, ∃ kc2 : ClassId, r = k0 ∧ va_P (dC, dI) vwCl [(h0, .inr (16, [v0, .ref h3, v1, v2, v3, v4, v5, v6, .ref h1, v7, v8, v9, v10, v11, v12, v13])), (h3, .inr (11, [v15, .int 0])), (k0, .inr (0, [.ref k1, .int 0, .int 0, .int 0])), (h1, .inr (1, [.ref h2, .int 0, v14, .int 0])), (h2, .inl (cc0, 16, .inl f0)), (k1, .inl (kc2, 0, .inl (va_cpy (f0) (fun _ => 0) 0 0 0)))] t.heap ∧ va_K (dC, dI) vwCl [(cc0, .byte), (kc2, .byte)] t ∧ va_D (va_A [(h0, .inr (16, [v0, .ref h3, v1, v2, v3, v4, v5, v6, .ref h1, v7, v8, v9, v10, v11, v12, v13])), (h1, .inr (1, [.ref h2, .int 0, v14, .int 0])), (h2, .inl (cc0, 16, .inl f0)), (h3, .inr (11, [v15, .int 0]))] sz) [(h0, .inr (16, [v0, .ref h3, v1, v2, v3, v4, v5, v6, .ref h1, v7, v8, v9, v10, v11, v12, v13])), (h3, .inr (11, [v15, .int 0])), (k0, .inr (0, [.ref k1, .int 0, .int 0, .int 0])), (h1, .inr (1, [.ref h2, .int 0, v14, .int 0])), (h2, .inl (cc0, 16, .inl f0)), (k1, .inl (kc2, 0, .inl (va_cpy (f0) (fun _ => 0) 0 0 0)))]) (va_A [(h0, .inr (16, [v0, .ref h3, v1, v2, v3, v4, v5, v6, .ref h1, v7, v8, v9, v10, v11, v12, v13])), (h1, .inr (1, [.ref h2, .int 0, v14, .int 0])), (h2, .inl (cc0, 16, .inl f0)), (h3, .inr (11, [v15, .int 0]))] sz)) 2 4 (va_A [(h0, .inr (16, [v0, .ref h3, v1, v2, v3, v4, v5, v6, .ref h1, v7, v8, v9, v10, v11, v12, v13])), (h1, .inr (1, [.ref h2, .int 0, v14, .int 0])), (h2, .inl (cc0, 16, .inl f0)), (h3, .inr (11, [v15, .int 0]))] sz) := by
  refine Met.ofW (cc := cX9_typed) (maxL := 1) (ret := (some (.object "java/lang/String"))) (by decide) rfl ?_
  intro p e s m args below meth c s₁ B hml hv
  obtain ⟨rfl, hsz, hP, hK, hD0, hF⟩ := hv
  have hx := B.exec
  have hb := B.bytes
  have hr := B.returns
  have hts := atoms_spec (ws := wbX9_typed) B.pre
  have hta : ∀ w ∈ wsALL, w.before _ s = true := fun w h => hts w (List.mem_cons_of_mem _ h)
  have hown : s.vm.findClass RX9 = some m.cls := findClass_of_methodNamed B.named
  have hlocks := B.notSynchronized
  subst hsz
  have hD := hD0.self (sz := s.heap.size)
  generalize hAe : va_A [(h0, .inr (16, [v0, .ref h3, v1, v2, v3, v4, v5, v6, .ref h1, v7, v8, v9, v10, v11, v12, v13])), (h1, .inr (1, [.ref h2, .int 0, v14, .int 0])), (h2, .inl (cc0, 16, .inl f0)), (h3, .inr (11, [v15, .int 0]))] s.heap.size = A at hD hF ⊢
  have hA : ∀ q : Nat, s.heap.size ≤ q → A q := fun q h => by rw [← hAe]; exact Or.inr h
  have hS : va_S A s.heap s.heap [] := va_S.rf
  have hP : va_P (dC, dI) vwCl [(h0, .inr (16, [v0, .ref h3, v1, v2, v3, v4, v5, v6, .ref h1, v7, v8, v9, v10, v11, v12, v13])), (h1, .inr (1, [.ref h2, .int 0, v14, .int 0])), (h2, .inl (cc0, 16, .inl f0)), (h3, .inr (11, [v15, .int 0]))] s.heap := hP
  have hl := lv_entry ([.ref h0]) (n := 1) (Nat.le_of_ble_eq_true rfl)
  rw [lg_entry_eq]
  generalize (lg_sl ([.ref h0]) ++ List.replicate (1 - (lg_sl ([.ref h0])).length) Slot.unset).toArray = ls at hl ⊢
  have hl : lv_has ls 1 [(0, .ref h0)] := hl
  refine lv_aload_n hx hb dX9_typed_0 rfl (lv_at hl 0 rfl) ?_
  refine lv_aload_n hx hb dX9_typed_1 rfl (lv_at hl 0 rfl) ?_
  refine va_get (D := (dC, dI)) (ci := 16) (v := .ref h3) (C := RX9) (T := TX9) (N := 16) hx hb hta naX9 hown hK hP 0 rfl rfl 1 (by decide) (hta _ wm32) (fun _ h9 => h9) rfl dX9_typed_2 ?_
  have hPc := hP.sub (ws' := [(h0, .inr (16, [v0, .ref h3, v1, v2, v3, v4, v5, v6, .ref h1, v7, v8, v9, v10, v11, v12, v13])), (h1, .inr (1, [.ref h2, .int 0, v14, .int 0])), (h2, .inl (cc0, 16, .inl f0)), (h3, .inr (11, [v15, .int 0]))]) [0, 1, 2, 3] rfl
  have hDc := hD.sub (ws' := [(h0, .inr (16, [v0, .ref h3, v1, v2, v3, v4, v5, v6, .ref h1, v7, v8, v9, v10, v11, v12, v13])), (h1, .inr (1, [.ref h2, .int 0, v14, .int 0])), (h2, .inl (cc0, 16, .inl f0)), (h3, .inr (11, [v15, .int 0]))]) [0, 1, 2, 3] (by decide) rfl
  have hKc := hK.sub (tys' := [(cc0, .byte)]) [0] rfl
  have hFc := va_free (wc := [(h0, .inr (16, [v0, .ref h3, v1, v2, v3, v4, v5, v6, .ref h1, v7, v8, v9, v10, v11, v12, v13])), (h1, .inr (1, [.ref h2, .int 0, v14, .int 0])), (h2, .inl (cc0, 16, .inl f0)), (h3, .inr (11, [v15, .int 0]))]) hD hS hA [0, 1, 2, 3] rfl
  refine va_callr (va_runV (As := [.ref h3]) (rest := []) ⟨hx, hb, hml, hown, hts⟩ (kX9_textOf l dC dI g s.heap.size h0 h3 h1 h2 v0 (.ref h3) v1 v2 v3 v4 v5 v6 v7 v8 v9 v10 v11 v12 v13 v14 cc0 f0 hf0 v15 ) (cwV 1 hts (ns_gp (List.forall_mem_cons.mpr ⟨wm906, (List.forall_mem_cons.mpr ⟨wm907, (List.forall_mem_cons.mpr ⟨wm908, (List.forall_mem_cons.mpr ⟨wm2, (fun _ h9 => nomatch h9)⟩)⟩)⟩)⟩) wm905) rfl rfl rfl (by decide +kernel) ⟨Nat.le_of_ble_eq_true rfl, Nat.le_of_ble_eq_true rfl⟩) ⟨fun a U gg mk q => by obtain ⟨q0, q1, qP, qK, qD, qF⟩ := q; exact ⟨q0, q1, qP, va_K.moved (u := U) (U := U.calling gg mk a) (Vm.Alike.refl U.vm) qK, qD, ns_same qF⟩, va_recv hK hP (ci := 16) (q0 := 0) rfl rfl, fun U hU hW => ⟨rfl, by rw [hU], by rw [hU]; exact hPc, va_K.moved hW.alike hKc, hDc.weaken (fun _ _ _ _ => trivial), ns_call hF hS hFc hU hW⟩⟩ rfl rfl hl.1 rfl (lv_room (Nat.le_of_ble_eq_true rfl)) dX9_typed_5 ⟨Nat.le_of_ble_eq_true rfl, Nat.le_of_ble_eq_true rfl⟩) hS (fun q _ h => hFc q h) hFc (fun u r9 t H1 locs ht hvm hw hB hz1 hk1 hS => ?_)
  obtain ⟨q1, q2, cy3, hr9, hP1, hK1, hD1⟩ := hB
  obtain rfl := hr9.symm
  rw [ht] at hP1
  have hK1 := va_K.moved hvm.symm hK1
  obtain ⟨hP, hD⟩ := va_join (wr := []) (w1 := [(h0, .inr (16, [v0, .ref h3, v1, v2, v3, v4, v5, v6, .ref h1, v7, v8, v9, v10, v11, v12, v13])), (h3, .inr (11, [v15, .int 0])), (q1, .inr (0, [.ref q2, .int 0, .int 0, .int 0])), (h1, .inr (1, [.ref h2, .int 0, v14, .int 0])), (h2, .inl (cc0, 16, .inl f0)), (q2, .inl (cy3, 0, .inl (va_cpy (f0) (fun _ => 0) 0 0 0)))]) hP hD [0, 1, 2, 3] [] rfl rfl (by decide) (by decide) hk1 hFc hP1 hD1
  have hK := (hK.sub (tys' := []) [] rfl).app hK1
  generalize H1 = H at hP hS ⊢
  have hP : va_P (dC, dI) vwCl [(h0, .inr (16, [v0, .ref h3, v1, v2, v3, v4, v5, v6, .ref h1, v7, v8, v9, v10, v11, v12, v13])), (h3, .inr (11, [v15, .int 0])), (q1, .inr (0, [.ref q2, .int 0, .int 0, .int 0])), (h1, .inr (1, [.ref h2, .int 0, v14, .int 0])), (h2, .inl (cc0, 16, .inl f0)), (q2, .inl (cy3, 0, .inl (va_cpy (f0) (fun _ => 0) 0 0 0)))] H := hP
  have hD : va_D A [(h0, .inr (16, [v0, .ref h3, v1, v2, v3, v4, v5, v6, .ref h1, v7, v8, v9, v10, v11, v12, v13])), (h3, .inr (11, [v15, .int 0])), (q1, .inr (0, [.ref q2, .int 0, .int 0, .int 0])), (h1, .inr (1, [.ref h2, .int 0, v14, .int 0])), (h2, .inl (cc0, 16, .inl f0)), (q2, .inl (cy3, 0, .inl (va_cpy (f0) (fun _ => 0) 0 0 0)))] := hD
  have hK : va_K (dC, dI) vwCl [(cc0, .byte), (cy3, .byte)] s := hK
  refine W.widen (k := 2) (n := 4) (Nat.le_of_ble_eq_true rfl) (Nat.le_of_ble_eq_true rfl) ?_
  have hP9 := hP.sub (ws' := [(h0, .inr (16, [v0, .ref h3, v1, v2, v3, v4, v5, v6, .ref h1, v7, v8, v9, v10, v11, v12, v13])), (h3, .inr (11, [v15, .int 0])), (q1, .inr (0, [.ref q2, .int 0, .int 0, .int 0])), (h1, .inr (1, [.ref h2, .int 0, v14, .int 0])), (h2, .inl (cc0, 16, .inl f0)), (q2, .inl (cy3, 0, .inl (va_cpy (f0) (fun _ => 0) 0 0 0)))]) [0, 1, 2, 3, 4, 5] rfl
  have hD9 := hD.sub (ws' := [(h0, .inr (16, [v0, .ref h3, v1, v2, v3, v4, v5, v6, .ref h1, v7, v8, v9, v10, v11, v12, v13])), (h3, .inr (11, [v15, .int 0])), (q1, .inr (0, [.ref q2, .int 0, .int 0, .int 0])), (h1, .inr (1, [.ref h2, .int 0, v14, .int 0])), (h2, .inl (cc0, 16, .inl f0)), (q2, .inl (cy3, 0, .inl (va_cpy (f0) (fun _ => 0) 0 0 0)))]) [0, 1, 2, 3, 4, 5] (by decide) rfl
  have hK9 := hK.sub (tys' := [(cc0, .byte), (cy3, .byte)]) [0, 1] rfl
  refine W.widen (k := 2) (n := 4) (Nat.le_of_ble_eq_true rfl) (Nat.le_of_ble_eq_true rfl) ?_
  exact W.aret (v := .ref q1) hx hb hr (by first | exact Or.inl ⟨_, rfl⟩ | exact Or.inr ⟨_, rfl⟩) (Or.inr ⟨_, rfl⟩) (fun t ht hW => ⟨⟨(), _, rfl, trivial, q1, q2, cy3, rfl, by rw [ht]; exact hP9, va_K.moved hW.alike hK9, hD9⟩, hS.F ht⟩) hS.2.2 dX9_typed_8

set_option maxHeartbeats 4000000 in
set_option maxRecDepth 100000 in
theorem ns_say_5_2 {p : Program} {l : Launch} {e : Env} {s : State} {m : MethodId} {args : Array Value} {below : List Frame} {meth : Method} {c : Code} {dC : Nat → ClassId} {dI : Nat → Nat → Nat} {g : Nat → Nat} {A : Nat → Prop} {Q : State → Prop} {h0 : Nat} {x0 : Int32} {x1 : Int32} {x2 : Int32} {x3 : Int32} {x4 : Int32} {x5 : Int32} {v1 : Value} {v2 : Value} {v3 : Value} {v4 : Value} {v5 : Value} {v6 : Value} {v7 : Value} {q1 : Nat} {cyq1 : ClassId} {t9 b9 : Nat} {cb9 : ClassId} {fb9 : Nat → Int32} (hb9 : sb_Fit fb9) {H : Heap} {locs : List Loc} {ls : Array Slot} {E9 : Int32} (hE : E9 = 2) (ex0 : (-1 : Int) ≤ x0.toInt ∧ x0.toInt ≤ (21 : Int)) (ex1 : (-1 : Int) ≤ x1.toInt ∧ x1.toInt ≤ (21 : Int)) (ex2 : (-1 : Int) ≤ x2.toInt ∧ x2.toInt ≤ (21 : Int)) (ex3 : (-1 : Int) ≤ x3.toInt ∧ x3.toInt ≤ (21 : Int)) (ex4 : (-1 : Int) ≤ x4.toInt ∧ x4.toInt ≤ (21 : Int)) (ex5 : (-1 : Int) ≤ x5.toInt ∧ x5.toInt ≤ (21 : Int)) (hx : p.tables.exec = Jvm.exec) (hb : c.code = cX16_say) (hml : c.maxLocals = 14) (hown : s.vm.findClass RX16 = some m.cls) (hts : ∀ w ∈ wbX16_say, w.before args s = true) (hA : ∀ q : Nat, s.heap.size ≤ q → A q) (hF : ns_F g A s s.heap) (hK : va_K (dC, dI) vwCl [(cyq1, .int), (cb9, .byte)] s) (hP : va_P (dC, dI) vwCl [(h0, .inr (23, [.int 0, v1, v2, v3, .ref (g 34), v4, v5, v6, v7])), (q1, .inl (cyq1, 6, .inl (upd (upd (upd (upd (upd (upd (fun _ => 0) 0 x0) 1 x1) 2 x2) 3 x3) 4 x4) 5 x5))), (t9, .inr (0, [.ref b9, .int 0, .int 0, .int 0])), (b9, .inl (cb9, 2, .inl fb9))] H) (hD : va_D A [(h0, .inr (23, [.int 0, v1, v2, v3, .ref (g 34), v4, v5, v6, v7])), (q1, .inl (cyq1, 6, .inl (upd (upd (upd (upd (upd (upd (fun _ => 0) 0 x0) 1 x1) 2 x2) 3 x3) 4 x4) 5 x5))), (t9, .inr (0, [.ref b9, .int 0, .int 0, .int 0])), (b9, .inl (cb9, 2, .inl fb9))]) (hS : va_S A s.heap H locs) (hl : lv_has ls 14 [(12, .int 5), (11, .int 6), (10, .ref q1), (9, .ref t9), (0, .ref h0)]) (k09 : ∀ (H : Heap) (locs : List Loc) (ls : Array Slot), (ns_len E9 x5) = 0 → va_K (dC, dI) vwCl [(cyq1, .int)] s → va_P (dC, dI) vwCl [(h0, .inr (23, [.int 0, v1, v2, v3, .ref (g 34), v4, v5, v6, v7])), (q1, .inl (cyq1, 6, .inl (upd (upd (upd (upd (upd (upd (fun _ => 0) 0 x0) 1 x1) 2 x2) 3 x3) 4 x4) 5 x5)))] H → va_D A [(h0, .inr (23, [.int 0, v1, v2, v3, .ref (g 34), v4, v5, v6, v7])), (q1, .inl (cyq1, 6, .inl (upd (upd (upd (upd (upd (upd (fun _ => 0) 0 x0) 1 x1) 2 x2) 3 x3) 4 x4) 5 x5)))] → va_S A s.heap H locs → lv_has ls 14 [(9, .ref (g 34)), (0, .ref h0)] → W p l e ({ frames := 7, cells := 37, slots := 246, locals := 172 } : Room) s m args below meth c H locs 37 246 Q (F0 m 173 ls [])) (k19 : ∀ (t9 b9 : Nat) (cb9 : ClassId) (fb9 : Nat → Int32) (hb9 : sb_Fit fb9), ∀ (H : Heap) (locs : List Loc) (ls : Array Slot), (ns_len E9 x5) = 1 → va_K (dC, dI) vwCl [(cyq1, .int), (cb9, .byte)] s → va_P (dC, dI) vwCl [(h0, .inr (23, [.int 0, v1, v2, v3, .ref (g 34), v4, v5, v6, v7])), (q1, .inl (cyq1, 6, .inl (upd (upd (upd (upd (upd (upd (fun _ => 0) 0 x0) 1 x1) 2 x2) 3 x3) 4 x4) 5 x5))), (t9, .inr (0, [.ref b9, .int 0, .int 0, .int 0])), (b9, .inl (cb9, 1, .inl fb9))] H → va_D A [(h0, .inr (23, [.int 0, v1, v2, v3, .ref (g 34), v4, v5, v6, v7])), (q1, .inl (cyq1, 6, .inl (upd (upd (upd (upd (upd (upd (fun _ => 0) 0 x0) 1 x1) 2 x2) 3 x3) 4 x4) 5 x5))), (t9, .inr (0, [.ref b9, .int 0, .int 0, .int 0])), (b9, .inl (cb9, 1, .inl fb9))] → va_S A s.heap H locs → lv_has ls 14 [(9, .ref t9), (0, .ref h0)] → W p l e ({ frames := 7, cells := 37, slots := 246, locals := 172 } : Room) s m args below meth c H locs 37 246 Q (F0 m 173 ls [])) (k29 : ∀ (t9 b9 : Nat) (cb9 : ClassId) (fb9 : Nat → Int32) (hb9 : sb_Fit fb9), ∀ (H : Heap) (locs : List Loc) (ls : Array Slot), (ns_len E9 x5) = 2 → va_K (dC, dI) vwCl [(cyq1, .int), (cb9, .byte)] s → va_P (dC, dI) vwCl [(h0, .inr (23, [.int 0, v1, v2, v3, .ref (g 34), v4, v5, v6, v7])), (q1, .inl (cyq1, 6, .inl (upd (upd (upd (upd (upd (upd (fun _ => 0) 0 x0) 1 x1) 2 x2) 3 x3) 4 x4) 5 x5))), (t9, .inr (0, [.ref b9, .int 0, .int 0, .int 0])), (b9, .inl (cb9, 2, .inl fb9))] H → va_D A [(h0, .inr (23, [.int 0, v1, v2, v3, .ref (g 34), v4, v5, v6, v7])), (q1, .inl (cyq1, 6, .inl (upd (upd (upd (upd (upd (upd (fun _ => 0) 0 x0) 1 x1) 2 x2) 3 x3) 4 x4) 5 x5))), (t9, .inr (0, [.ref b9, .int 0, .int 0, .int 0])), (b9, .inl (cb9, 2, .inl fb9))] → va_S A s.heap H locs → lv_has ls 14 [(9, .ref t9), (0, .ref h0)] → W p l e ({ frames := 7, cells := 37, slots := 246, locals := 172 } : Room) s m args below meth c H locs 37 246 Q (F0 m 173 ls [])) (k39 : ∀ (t9 b9 : Nat) (cb9 : ClassId) (fb9 : Nat → Int32) (hb9 : sb_Fit fb9), ∀ (H : Heap) (locs : List Loc) (ls : Array Slot), (ns_len E9 x5) = 3 → va_K (dC, dI) vwCl [(cyq1, .int), (cb9, .byte)] s → va_P (dC, dI) vwCl [(h0, .inr (23, [.int 0, v1, v2, v3, .ref (g 34), v4, v5, v6, v7])), (q1, .inl (cyq1, 6, .inl (upd (upd (upd (upd (upd (upd (fun _ => 0) 0 x0) 1 x1) 2 x2) 3 x3) 4 x4) 5 x5))), (t9, .inr (0, [.ref b9, .int 0, .int 0, .int 0])), (b9, .inl (cb9, 3, .inl fb9))] H → va_D A [(h0, .inr (23, [.int 0, v1, v2, v3, .ref (g 34), v4, v5, v6, v7])), (q1, .inl (cyq1, 6, .inl (upd (upd (upd (upd (upd (upd (fun _ => 0) 0 x0) 1 x1) 2 x2) 3 x3) 4 x4) 5 x5))), (t9, .inr (0, [.ref b9, .int 0, .int 0, .int 0])), (b9, .inl (cb9, 3, .inl fb9))] → va_S A s.heap H locs → lv_has ls 14 [(9, .ref t9), (0, .ref h0)] → W p l e ({ frames := 7, cells := 37, slots := 246, locals := 172 } : Room) s m args below meth c H locs 37 246 Q (F0 m 173 ls [])) (k49 : ∀ (t9 b9 : Nat) (cb9 : ClassId) (fb9 : Nat → Int32) (hb9 : sb_Fit fb9), ∀ (H : Heap) (locs : List Loc) (ls : Array Slot), (ns_len E9 x5) = 4 → va_K (dC, dI) vwCl [(cyq1, .int), (cb9, .byte)] s → va_P (dC, dI) vwCl [(h0, .inr (23, [.int 0, v1, v2, v3, .ref (g 34), v4, v5, v6, v7])), (q1, .inl (cyq1, 6, .inl (upd (upd (upd (upd (upd (upd (fun _ => 0) 0 x0) 1 x1) 2 x2) 3 x3) 4 x4) 5 x5))), (t9, .inr (0, [.ref b9, .int 0, .int 0, .int 0])), (b9, .inl (cb9, 4, .inl fb9))] H → va_D A [(h0, .inr (23, [.int 0, v1, v2, v3, .ref (g 34), v4, v5, v6, v7])), (q1, .inl (cyq1, 6, .inl (upd (upd (upd (upd (upd (upd (fun _ => 0) 0 x0) 1 x1) 2 x2) 3 x3) 4 x4) 5 x5))), (t9, .inr (0, [.ref b9, .int 0, .int 0, .int 0])), (b9, .inl (cb9, 4, .inl fb9))] → va_S A s.heap H locs → lv_has ls 14 [(9, .ref t9), (0, .ref h0)] → W p l e ({ frames := 7, cells := 37, slots := 246, locals := 172 } : Room) s m args below meth c H locs 37 246 Q (F0 m 173 ls [])) (k59 : ∀ (t9 b9 : Nat) (cb9 : ClassId) (fb9 : Nat → Int32) (hb9 : sb_Fit fb9), ∀ (H : Heap) (locs : List Loc) (ls : Array Slot), (ns_len E9 x5) = 5 → va_K (dC, dI) vwCl [(cyq1, .int), (cb9, .byte)] s → va_P (dC, dI) vwCl [(h0, .inr (23, [.int 0, v1, v2, v3, .ref (g 34), v4, v5, v6, v7])), (q1, .inl (cyq1, 6, .inl (upd (upd (upd (upd (upd (upd (fun _ => 0) 0 x0) 1 x1) 2 x2) 3 x3) 4 x4) 5 x5))), (t9, .inr (0, [.ref b9, .int 0, .int 0, .int 0])), (b9, .inl (cb9, 5, .inl fb9))] H → va_D A [(h0, .inr (23, [.int 0, v1, v2, v3, .ref (g 34), v4, v5, v6, v7])), (q1, .inl (cyq1, 6, .inl (upd (upd (upd (upd (upd (upd (fun _ => 0) 0 x0) 1 x1) 2 x2) 3 x3) 4 x4) 5 x5))), (t9, .inr (0, [.ref b9, .int 0, .int 0, .int 0])), (b9, .inl (cb9, 5, .inl fb9))] → va_S A s.heap H locs → lv_has ls 14 [(9, .ref t9), (0, .ref h0)] → W p l e ({ frames := 7, cells := 37, slots := 246, locals := 172 } : Room) s m args below meth c H locs 37 246 Q (F0 m 173 ls [])) (k69 : ∀ (t9 b9 : Nat) (cb9 : ClassId) (fb9 : Nat → Int32) (hb9 : sb_Fit fb9), ∀ (H : Heap) (locs : List Loc) (ls : Array Slot), (ns_len E9 x5) = 6 → va_K (dC, dI) vwCl [(cyq1, .int), (cb9, .byte)] s → va_P (dC, dI) vwCl [(h0, .inr (23, [.int 0, v1, v2, v3, .ref (g 34), v4, v5, v6, v7])), (q1, .inl (cyq1, 6, .inl (upd (upd (upd (upd (upd (upd (fun _ => 0) 0 x0) 1 x1) 2 x2) 3 x3) 4 x4) 5 x5))), (t9, .inr (0, [.ref b9, .int 0, .int 0, .int 0])), (b9, .inl (cb9, 6, .inl fb9))] H → va_D A [(h0, .inr (23, [.int 0, v1, v2, v3, .ref (g 34), v4, v5, v6, v7])), (q1, .inl (cyq1, 6, .inl (upd (upd (upd (upd (upd (upd (fun _ => 0) 0 x0) 1 x1) 2 x2) 3 x3) 4 x4) 5 x5))), (t9, .inr (0, [.ref b9, .int 0, .int 0, .int 0])), (b9, .inl (cb9, 6, .inl fb9))] → va_S A s.heap H locs → lv_has ls 14 [(9, .ref t9), (0, .ref h0)] → W p l e ({ frames := 7, cells := 37, slots := 246, locals := 172 } : Room) s m args below meth c H locs 37 246 Q (F0 m 173 ls [])) : W p l e ({ frames := 7, cells := 37, slots := 246, locals := 172 } : Room) s m args below meth c H locs 31 206 Q (F0 m 119 ls []) := by
  have hta : ∀ w ∈ wsALL, w.before args s = true := fun w h => hts w (List.mem_cons_of_mem _ h)
  refine lv_iload hx hb dX16_say_119 (lv_at hl 0 rfl) ?_
  refine lv_iload hx hb dX16_say_121 (lv_at hl 1 rfl) ?_
  refine lv_icmp_ge (tgt := 173) hx hb dX16_say_123 (by decide) (fun c1001 => absurd c1001 (by decide)) (fun c1001 => ?_)
  refine lv_aload hx hb dX16_say_126 (lv_at hl 2 rfl) ?_
  refine lv_iload hx hb dX16_say_128 (lv_at hl 0 rfl) ?_
  refine va_iald hx hb hK hP 1 0 rfl rfl (vp_in_nI (n := 5) (by decide) (by decide)) dX16_say_130 ?_
  refine lv_topi (fun y1002 ey1002 => ?_)
  obtain rfl : x5 = y1002 := ey1002.symm
  refine lv_istore (lv' := [(13, .int x5), (12, .int 5), (11, .int 6), (10, .ref q1), (9, .ref t9), (0, .ref h0)]) hx hb dX16_say_131 hl (by decide) rfl (fun ls hl => ?_)
  rcases (show ((-1 : Int) ≤ x5.toInt ∧ x5.toInt ≤ (-1 : Int)) ∨ ((0 : Int) ≤ x5.toInt ∧ x5.toInt ≤ (19 : Int)) ∨ ((20 : Int) ≤ x5.toInt ∧ x5.toInt ≤ (20 : Int)) ∨ ((21 : Int) ≤ x5.toInt ∧ x5.toInt ≤ (21 : Int)) by omega) with r13 | r13 | r13 | r13
  · have _h9 := 0
    refine lv_aload hx hb dX16_say_133 (lv_at hl 4 rfl) ?_
    refine lv_iload hx hb dX16_say_135 (lv_at hl 0 rfl) ?_
    have hPc := hP.sub (ws' := []) [] rfl
    have hDc := hD.sub (ws' := []) [] (by decide) rfl
    have hKc := hK.sub (tys' := []) [] rfl
    have hFc := va_free (wc := []) hD hS hA [] rfl
    refine va_callr (va_runS (As := [.ref t9, .int x5]) (rest := []) ⟨hx, hb, hml, hown, hts⟩ (kX16_said_5 l dC dI g H.size t9 x5 ⟨by omega, by omega⟩) (va_cwS 2 hts (ns_gp (List.forall_mem_cons.mpr ⟨wm655, (List.forall_mem_cons.mpr ⟨wm656, (List.forall_mem_cons.mpr ⟨wm192, (fun _ h9 => nomatch h9)⟩)⟩)⟩) wm604) rfl rfl rfl (by decide +kernel) ⟨Nat.le_of_ble_eq_true rfl, Nat.le_of_ble_eq_true rfl⟩) ⟨fun a U gg mk q => by obtain ⟨q0, q1, qP, qK, qD, qF⟩ := q; exact ⟨q0, q1, qP, va_K.moved (u := U) (U := U.calling gg mk a) (Vm.Alike.refl U.vm) qK, qD, ns_same qF⟩, fun U hU hW => ⟨rfl, by rw [hU], by rw [hU]; exact hPc, va_K.moved hW.alike hKc, hDc.weaken (fun _ _ _ _ => trivial), ns_call hF hS hFc hU hW⟩⟩ rfl rfl hl.1 rfl (lv_room (Nat.le_of_ble_eq_true rfl)) dX16_say_137 ⟨Nat.le_of_ble_eq_true rfl, Nat.le_of_ble_eq_true rfl⟩) hS (fun q _ h => hFc q h) hFc (fun u r9 t H1 locs ht hvm hw hB hz1 hk1 hS => ?_)
    obtain ⟨hr9, hP1, hK1, hD1⟩ := hB
    obtain rfl := hr9.symm
    rw [ht] at hP1
    have hK1 := va_K.moved hvm.symm hK1
    obtain ⟨hP, hD⟩ := va_join (wr := [(h0, .inr (23, [.int 0, v1, v2, v3, .ref (g 34), v4, v5, v6, v7])), (q1, .inl (cyq1, 6, .inl (upd (upd (upd (upd (upd (upd (fun _ => 0) 0 x0) 1 x1) 2 x2) 3 x3) 4 x4) 5 x5))), (t9, .inr (0, [.ref b9, .int 0, .int 0, .int 0])), (b9, .inl (cb9, 2, .inl fb9))]) (w1 := []) hP hD [] [0, 1, 2, 3] rfl rfl (by decide) (by decide) hk1 hFc hP1 hD1
    have hK := (hK.sub (tys' := [(cyq1, .int), (cb9, .byte)]) [0, 1] rfl).app hK1
    generalize H1 = H at hP hS ⊢
    have hP : va_P (dC, dI) vwCl [(h0, .inr (23, [.int 0, v1, v2, v3, .ref (g 34), v4, v5, v6, v7])), (q1, .inl (cyq1, 6, .inl (upd (upd (upd (upd (upd (upd (fun _ => 0) 0 x0) 1 x1) 2 x2) 3 x3) 4 x4) 5 x5))), (t9, .inr (0, [.ref b9, .int 0, .int 0, .int 0])), (b9, .inl (cb9, 2, .inl fb9))] H := hP
    have hD : va_D A [(h0, .inr (23, [.int 0, v1, v2, v3, .ref (g 34), v4, v5, v6, v7])), (q1, .inl (cyq1, 6, .inl (upd (upd (upd (upd (upd (upd (fun _ => 0) 0 x0) 1 x1) 2 x2) 3 x3) 4 x4) 5 x5))), (t9, .inr (0, [.ref b9, .int 0, .int 0, .int 0])), (b9, .inl (cb9, 2, .inl fb9))] := hD
    have hK : va_K (dC, dI) vwCl [(cyq1, .int), (cb9, .byte)] s := hK
    refine W.widen (k := 31) (n := 206) (Nat.le_of_ble_eq_true rfl) (Nat.le_of_ble_eq_true rfl) ?_
    refine lv_astore (lv' := [(9, .ref t9), (13, .int x5), (12, .int 5), (11, .int 6), (10, .ref q1), (0, .ref h0)]) hx hb dX16_say_140 hl (by decide) rfl (fun ls hl => ?_)
    refine lv_aload_n hx hb dX16_say_142 rfl (lv_at hl 5 rfl) ?_
    refine lv_aload hx hb dX16_say_143 (lv_at hl 0 rfl) ?_
    have hPc := hP.sub (ws' := [(t9, .inr (0, [.ref b9, .int 0, .int 0, .int 0])), (b9, .inl (cb9, 2, .inl fb9))]) [2, 3] rfl
    have hDc := hD.sub (ws' := [(t9, .inr (0, [.ref b9, .int 0, .int 0, .int 0])), (b9, .inl (cb9, 2, .inl fb9))]) [2, 3] (by decide) rfl
    have hKc := hK.sub (tys' := [(cb9, .byte)]) [1] rfl
    have hFc := va_free (wc := [(t9, .inr (0, [.ref b9, .int 0, .int 0, .int 0])), (b9, .inl (cb9, 2, .inl fb9))]) hD hS hA [2, 3] rfl
    refine va_calli (va_runV (As := []) (rest := [.ref h0]) ⟨hx, hb, hml, hown, hts⟩ (kJ0_length_8abf5_4 l dC dI g H.size t9 b9 (.int 0) (.int 0) cb9 fb9 hb9 ) (cwV 0 hts (ns_gp (List.forall_mem_cons.mpr ⟨wm646, (List.forall_mem_cons.mpr ⟨wm595, (List.forall_mem_cons.mpr ⟨wm596, (List.forall_mem_cons.mpr ⟨wm316, (fun _ h9 => nomatch h9)⟩)⟩)⟩)⟩) wm574) rfl rfl rfl (by decide +kernel) ⟨Nat.le_of_ble_eq_true rfl, Nat.le_of_ble_eq_true rfl⟩) ⟨fun a U gg mk q => by obtain ⟨q0, q1, qP, qK, qD, qF⟩ := q; exact ⟨q0, q1, qP, va_K.moved (u := U) (U := U.calling gg mk a) (Vm.Alike.refl U.vm) qK, qD, ns_same qF⟩, va_recv hK hP (ci := 0) (q0 := 2) rfl rfl, fun U hU hW => ⟨rfl, by rw [hU], by rw [hU]; exact hPc, va_K.moved hW.alike hKc, hDc.weaken (fun _ _ _ _ => trivial), ns_call hF hS hFc hU hW⟩⟩ rfl rfl hl.1 rfl (lv_room (Nat.le_of_ble_eq_true rfl)) dX16_say_145 ⟨Nat.le_of_ble_eq_true rfl, Nat.le_of_ble_eq_true rfl⟩) hS (fun q _ h => hFc q h) hFc (fun r9 u t H1 locs ht hvm hw hB hz1 hk1 hS => ?_)
    obtain rfl := hw.symm
    obtain ⟨hP1, hK1, hD1⟩ := hB
    rw [ht] at hP1
    have hK1 := va_K.moved hvm.symm hK1
    obtain ⟨hP, hD⟩ := va_join (wr := [(h0, .inr (23, [.int 0, v1, v2, v3, .ref (g 34), v4, v5, v6, v7])), (q1, .inl (cyq1, 6, .inl (upd (upd (upd (upd (upd (upd (fun _ => 0) 0 x0) 1 x1) 2 x2) 3 x3) 4 x4) 5 x5)))]) (w1 := [(b9, .inl (cb9, 2, .inl fb9)), (t9, .inr (0, [.ref b9, .int 0, .int 0, .int 0]))]) hP hD [2, 3] [0, 1] rfl rfl (by decide) (by decide) hk1 hFc hP1 hD1
    have hK := (hK.sub (tys' := [(cyq1, .int)]) [0] rfl).app hK1
    generalize H1 = H at hP hS ⊢
    have hP : va_P (dC, dI) vwCl [(h0, .inr (23, [.int 0, v1, v2, v3, .ref (g 34), v4, v5, v6, v7])), (q1, .inl (cyq1, 6, .inl (upd (upd (upd (upd (upd (upd (fun _ => 0) 0 x0) 1 x1) 2 x2) 3 x3) 4 x4) 5 x5))), (b9, .inl (cb9, 2, .inl fb9)), (t9, .inr (0, [.ref b9, .int 0, .int 0, .int 0]))] H := hP
    have hD : va_D A [(h0, .inr (23, [.int 0, v1, v2, v3, .ref (g 34), v4, v5, v6, v7])), (q1, .inl (cyq1, 6, .inl (upd (upd (upd (upd (upd (upd (fun _ => 0) 0 x0) 1 x1) 2 x2) 3 x3) 4 x4) 5 x5))), (b9, .inl (cb9, 2, .inl fb9)), (t9, .inr (0, [.ref b9, .int 0, .int 0, .int 0]))] := hD
    have hK : va_K (dC, dI) vwCl [(cyq1, .int), (cb9, .byte)] s := hK
    refine W.widen (k := 31) (n := 206) (Nat.le_of_ble_eq_true rfl) (Nat.le_of_ble_eq_true rfl) ?_
    refine lv_bipush (v := 60) hx hb dX16_say_148 (by decide) ?_
    refine lv_icmp_le (tgt := 157) hx hb dX16_say_150 (by decide) (fun c1003 => ?_) (fun c1003 => absurd (by decide) c1003)
    refine lv_iconst (v := 0) hx hb dX16_say_157 (by decide) ?_
    refine lv_iconst (v := 2) hx hb dX16_say_158 (by decide) ?_
    have hPc := hP.sub (ws' := [(h0, .inr (23, [.int 0, v1, v2, v3, .ref (g 34), v4, v5, v6, v7]))]) [0] rfl
    have hDc := hD.sub (ws' := [(h0, .inr (23, [.int 0, v1, v2, v3, .ref (g 34), v4, v5, v6, v7]))]) [0] (by decide) rfl
    have hKc := hK.sub (tys' := []) [] rfl
    have hFc := va_free (wc := [(h0, .inr (23, [.int 0, v1, v2, v3, .ref (g 34), v4, v5, v6, v7]))]) hD hS hA [0] rfl
    refine va_calli (va_runV (As := [.int 0, .int 2]) (rest := []) ⟨hx, hb, hml, hown, hts⟩ (kX16_refuse_3 l dC dI g H.size h0 v1 v2 v3 (.ref (g 34)) v4 v5 v6 v7 ) (cwV 2 hts (ns_gp (List.forall_mem_cons.mpr ⟨wm236, (List.forall_mem_cons.mpr ⟨wm237, (List.forall_mem_cons.mpr ⟨wm238, (List.forall_mem_cons.mpr ⟨wm192, (fun _ h9 => nomatch h9)⟩)⟩)⟩)⟩) wm235) rfl rfl rfl (by decide +kernel) ⟨Nat.le_of_ble_eq_true rfl, Nat.le_of_ble_eq_true rfl⟩) ⟨fun a U gg mk q => by obtain ⟨q0, q1, qP, qK, qD, qF⟩ := q; exact ⟨q0, q1, qP, va_K.moved (u := U) (U := U.calling gg mk a) (Vm.Alike.refl U.vm) qK, qD, ns_same qF⟩, va_recv hK hP (ci := 23) (q0 := 0) rfl rfl, fun U hU hW => ⟨rfl, by rw [hU], by rw [hU]; exact hPc, va_K.moved hW.alike hKc, hDc.weaken (fun _ _ _ _ => trivial), ns_call hF hS hFc hU hW⟩⟩ rfl rfl hl.1 rfl (lv_room (Nat.le_of_ble_eq_true rfl)) dX16_say_159 ⟨Nat.le_of_ble_eq_true rfl, Nat.le_of_ble_eq_true rfl⟩) hS (fun q _ h => hFc q h) hFc (fun r9 u t H1 locs ht hvm hw hB hz1 hk1 hS => ?_)
    obtain rfl := hw.symm
    obtain ⟨hP1, hK1, hD1⟩ := hB
    rw [ht] at hP1
    have hK1 := va_K.moved hvm.symm hK1
    obtain ⟨hP, hD⟩ := va_join (wr := [(q1, .inl (cyq1, 6, .inl (upd (upd (upd (upd (upd (upd (fun _ => 0) 0 x0) 1 x1) 2 x2) 3 x3) 4 x4) 5 x5))), (b9, .inl (cb9, 2, .inl fb9)), (t9, .inr (0, [.ref b9, .int 0, .int 0, .int 0]))]) (w1 := [(h0, .inr (23, [.int 0, v1, v2, v3, .ref (g 34), v4, v5, v6, v7]))]) hP hD [0] [1, 2, 3] rfl rfl (by decide) (by decide) hk1 hFc hP1 hD1
    have hK := (hK.sub (tys' := [(cyq1, .int), (cb9, .byte)]) [0, 1] rfl).app hK1
    generalize H1 = H at hP hS ⊢
    have hP : va_P (dC, dI) vwCl [(q1, .inl (cyq1, 6, .inl (upd (upd (upd (upd (upd (upd (fun _ => 0) 0 x0) 1 x1) 2 x2) 3 x3) 4 x4) 5 x5))), (b9, .inl (cb9, 2, .inl fb9)), (t9, .inr (0, [.ref b9, .int 0, .int 0, .int 0])), (h0, .inr (23, [.int 0, v1, v2, v3, .ref (g 34), v4, v5, v6, v7]))] H := hP
    have hD : va_D A [(q1, .inl (cyq1, 6, .inl (upd (upd (upd (upd (upd (upd (fun _ => 0) 0 x0) 1 x1) 2 x2) 3 x3) 4 x4) 5 x5))), (b9, .inl (cb9, 2, .inl fb9)), (t9, .inr (0, [.ref b9, .int 0, .int 0, .int 0])), (h0, .inr (23, [.int 0, v1, v2, v3, .ref (g 34), v4, v5, v6, v7]))] := hD
    have hK : va_K (dC, dI) vwCl [(cyq1, .int), (cb9, .byte)] s := hK
    refine W.widen (k := 31) (n := 206) (Nat.le_of_ble_eq_true rfl) (Nat.le_of_ble_eq_true rfl) ?_
    refine lv_if_eq (tgt := 167) hx hb dX16_say_162 (by decide) (fun c1004 => ?_) (fun c1004 => absurd (by decide) c1004)
    refine lv_iinc (v := 6) (lv' := [(12, .int 6), (9, .ref t9), (13, .int x5), (11, .int 6), (10, .ref q1), (0, .ref h0)]) hx hb dX16_say_167 hl (k := 2) rfl (by decide) (by decide) rfl (fun ls hl => ?_)
    refine lv_goto (tgt := 119) hx hb dX16_say_170 (by decide) ?_
    have hP := hP.sub (ws' := [(h0, .inr (23, [.int 0, v1, v2, v3, .ref (g 34), v4, v5, v6, v7])), (q1, .inl (cyq1, 6, .inl (upd (upd (upd (upd (upd (upd (fun _ => 0) 0 x0) 1 x1) 2 x2) 3 x3) 4 x4) 5 x5))), (t9, .inr (0, [.ref b9, .int 0, .int 0, .int 0])), (b9, .inl (cb9, 2, .inl fb9))]) [3, 0, 2, 1] rfl
    have hD := hD.sub (ws' := [(h0, .inr (23, [.int 0, v1, v2, v3, .ref (g 34), v4, v5, v6, v7])), (q1, .inl (cyq1, 6, .inl (upd (upd (upd (upd (upd (upd (fun _ => 0) 0 x0) 1 x1) 2 x2) 3 x3) 4 x4) 5 x5))), (t9, .inr (0, [.ref b9, .int 0, .int 0, .int 0])), (b9, .inl (cb9, 2, .inl fb9))]) [3, 0, 2, 1] (by decide) rfl
    have hK := hK.sub (tys' := [(cyq1, .int), (cb9, .byte)]) [0, 1] rfl
    have hl := lv_sub hl (l' := [(12, .int 6), (11, .int 6), (10, .ref q1), (9, .ref t9), (0, .ref h0)]) [0, 3, 4, 1, 5] rfl
    refine W.widen (k := 37) (n := 246) (Nat.le_of_ble_eq_true rfl) (Nat.le_of_ble_eq_true rfl) ?_
    have hE2 : ns_len E9 x5 = 2 := by rw [hE]; exact ns_lenA x5 2 (by omega)
    exact ns_say_6_2 hb9 hE2 ex0 ex1 ex2 ex3 ex4 ex5 hx hb hml hown hts hA hF hK hP hD hS hl k09 k19 k29 k39 k49 k59 k69
  · have _h9 := 0
    refine lv_aload hx hb dX16_say_133 (lv_at hl 4 rfl) ?_
    refine lv_iload hx hb dX16_say_135 (lv_at hl 0 rfl) ?_
    have hPc := hP.sub (ws' := [(t9, .inr (0, [.ref b9, .int 0, .int 0, .int 0])), (b9, .inl (cb9, 2, .inl fb9))]) [2, 3] rfl
    have hDc := hD.sub (ws' := [(t9, .inr (0, [.ref b9, .int 0, .int 0, .int 0])), (b9, .inl (cb9, 2, .inl fb9))]) [2, 3] (by decide) rfl
    have hKc := hK.sub (tys' := [(cb9, .byte)]) [1] rfl
    have hFc := va_free (wc := [(t9, .inr (0, [.ref b9, .int 0, .int 0, .int 0])), (b9, .inl (cb9, 2, .inl fb9))]) hD hS hA [2, 3] rfl
    refine va_callr (va_runS (As := [.ref t9, .int x5]) (rest := []) ⟨hx, hb, hml, hown, hts⟩ (kX16_said_9 l dC dI g H.size t9 x5 b9 (.int 0) (.int 0) cb9 fb9 hb9 ⟨by omega, by omega⟩) (va_cwS 2 hts (ns_gp (List.forall_mem_cons.mpr ⟨wm655, (List.forall_mem_cons.mpr ⟨wm656, (List.forall_mem_cons.mpr ⟨wm192, (fun _ h9 => nomatch h9)⟩)⟩)⟩) wm604) rfl rfl rfl (by decide +kernel) ⟨Nat.le_of_ble_eq_true rfl, Nat.le_of_ble_eq_true rfl⟩) ⟨fun a U gg mk q => by obtain ⟨q0, q1, qP, qK, qD, qF⟩ := q; exact ⟨q0, q1, qP, va_K.moved (u := U) (U := U.calling gg mk a) (Vm.Alike.refl U.vm) qK, qD, ns_same qF⟩, fun U hU hW => ⟨rfl, by rw [hU], by rw [hU]; exact hPc, va_K.moved hW.alike hKc, hDc.weaken (fun _ _ _ _ => trivial), ns_call hF hS hFc hU hW⟩⟩ rfl rfl hl.1 rfl (lv_room (Nat.le_of_ble_eq_true rfl)) dX16_say_137 ⟨Nat.le_of_ble_eq_true rfl, Nat.le_of_ble_eq_true rfl⟩) hS (fun q _ h => hFc q h) hFc (fun u r9 t H1 locs ht hvm hw hB hz1 hk1 hS => ?_)
    obtain ⟨q1005, q1006, cy1007, q1008, q1009, cy1010, hr9, hP1, hK1, hD1⟩ := hB
    obtain rfl := hr9.symm
    rw [ht] at hP1
    have hK1 := va_K.moved hvm.symm hK1
    obtain ⟨hP, hD⟩ := va_join (wr := [(h0, .inr (23, [.int 0, v1, v2, v3, .ref (g 34), v4, v5, v6, v7])), (q1, .inl (cyq1, 6, .inl (upd (upd (upd (upd (upd (upd (fun _ => 0) 0 x0) 1 x1) 2 x2) 3 x3) 4 x4) 5 x5)))]) (w1 := [(b9, .inl (cb9, 2, .inl fb9)), (t9, .inr (0, [.ref b9, .int 0, .int 0, .int 0])), (q1008, .inr (0, [.ref q1009, .int 0, .int 0, .int 0])), (q1005, .inr (1, [.ref q1006, .int 0, .int 0, .int 3])), (q1006, .inl (cy1007, 16, .inl (upd ((va_cpy (fb9) ((fun _ => 0)) 0 0 2)) 2 (vp_nar .byte (ns_ch x5).toInt8.toInt32)))), (q1009, .inl (cy1010, 3, .inl (va_cpy ((upd ((va_cpy (fb9) ((fun _ => 0)) 0 0 2)) 2 (vp_nar .byte (ns_ch x5).toInt8.toInt32))) (fun _ => 0) 0 0 3)))]) hP hD [2, 3] [0, 1] rfl rfl (by decide) (by decide) hk1 hFc hP1 hD1
    have hK := (hK.sub (tys' := [(cyq1, .int)]) [0] rfl).app hK1
    generalize H1 = H at hP hS ⊢
    have hP : va_P (dC, dI) vwCl [(h0, .inr (23, [.int 0, v1, v2, v3, .ref (g 34), v4, v5, v6, v7])), (q1, .inl (cyq1, 6, .inl (upd (upd (upd (upd (upd (upd (fun _ => 0) 0 x0) 1 x1) 2 x2) 3 x3) 4 x4) 5 x5))), (b9, .inl (cb9, 2, .inl fb9)), (t9, .inr (0, [.ref b9, .int 0, .int 0, .int 0])), (q1008, .inr (0, [.ref q1009, .int 0, .int 0, .int 0])), (q1005, .inr (1, [.ref q1006, .int 0, .int 0, .int 3])), (q1006, .inl (cy1007, 16, .inl (upd ((va_cpy (fb9) ((fun _ => 0)) 0 0 2)) 2 (vp_nar .byte (ns_ch x5).toInt8.toInt32)))), (q1009, .inl (cy1010, 3, .inl (va_cpy ((upd ((va_cpy (fb9) ((fun _ => 0)) 0 0 2)) 2 (vp_nar .byte (ns_ch x5).toInt8.toInt32))) (fun _ => 0) 0 0 3)))] H := hP
    have hD : va_D A [(h0, .inr (23, [.int 0, v1, v2, v3, .ref (g 34), v4, v5, v6, v7])), (q1, .inl (cyq1, 6, .inl (upd (upd (upd (upd (upd (upd (fun _ => 0) 0 x0) 1 x1) 2 x2) 3 x3) 4 x4) 5 x5))), (b9, .inl (cb9, 2, .inl fb9)), (t9, .inr (0, [.ref b9, .int 0, .int 0, .int 0])), (q1008, .inr (0, [.ref q1009, .int 0, .int 0, .int 0])), (q1005, .inr (1, [.ref q1006, .int 0, .int 0, .int 3])), (q1006, .inl (cy1007, 16, .inl (upd ((va_cpy (fb9) ((fun _ => 0)) 0 0 2)) 2 (vp_nar .byte (ns_ch x5).toInt8.toInt32)))), (q1009, .inl (cy1010, 3, .inl (va_cpy ((upd ((va_cpy (fb9) ((fun _ => 0)) 0 0 2)) 2 (vp_nar .byte (ns_ch x5).toInt8.toInt32))) (fun _ => 0) 0 0 3)))] := hD
    have hK : va_K (dC, dI) vwCl [(cyq1, .int), (cb9, .byte), (cy1007, .byte), (cy1010, .byte)] s := hK
    refine W.widen (k := 35) (n := 233) (Nat.le_of_ble_eq_true rfl) (Nat.le_of_ble_eq_true rfl) ?_
    refine lv_astore (lv' := [(9, .ref q1008), (13, .int x5), (12, .int 5), (11, .int 6), (10, .ref q1), (0, .ref h0)]) hx hb dX16_say_140 hl (by decide) rfl (fun ls hl => ?_)
    refine lv_aload_n hx hb dX16_say_142 rfl (lv_at hl 5 rfl) ?_
    refine lv_aload hx hb dX16_say_143 (lv_at hl 0 rfl) ?_
    have hPc := hP.sub (ws' := [(q1008, .inr (0, [.ref q1009, .int 0, .int 0, .int 0])), (q1009, .inl (cy1010, 3, .inl (va_cpy ((upd ((va_cpy (fb9) ((fun _ => 0)) 0 0 2)) 2 (vp_nar .byte (ns_ch x5).toInt8.toInt32))) (fun _ => 0) 0 0 3)))]) [4, 7] rfl
    have hDc := hD.sub (ws' := [(q1008, .inr (0, [.ref q1009, .int 0, .int 0, .int 0])), (q1009, .inl (cy1010, 3, .inl (va_cpy ((upd ((va_cpy (fb9) ((fun _ => 0)) 0 0 2)) 2 (vp_nar .byte (ns_ch x5).toInt8.toInt32))) (fun _ => 0) 0 0 3)))]) [4, 7] (by decide) rfl
    have hKc := hK.sub (tys' := [(cy1010, .byte)]) [3] rfl
    have hFc := va_free (wc := [(q1008, .inr (0, [.ref q1009, .int 0, .int 0, .int 0])), (q1009, .inl (cy1010, 3, .inl (va_cpy ((upd ((va_cpy (fb9) ((fun _ => 0)) 0 0 2)) 2 (vp_nar .byte (ns_ch x5).toInt8.toInt32))) (fun _ => 0) 0 0 3)))]) hD hS hA [4, 7] rfl
    refine va_calli (va_runV (As := []) (rest := [.ref h0]) ⟨hx, hb, hml, hown, hts⟩ (kJ0_length_8abf5_5 l dC dI g H.size q1008 q1009 (.int 0) (.int 0) cy1010 (va_cpy ((upd ((va_cpy (fb9) ((fun _ => 0)) 0 0 2)) 2 (vp_nar .byte (ns_ch x5).toInt8.toInt32))) (fun _ => 0) 0 0 3) (sb_fitC (sb_fitU (sb_fitC hb9 sb_fit0) (pk_fb _)) sb_fit0) ) (cwV 0 hts (ns_gp (List.forall_mem_cons.mpr ⟨wm646, (List.forall_mem_cons.mpr ⟨wm595, (List.forall_mem_cons.mpr ⟨wm596, (List.forall_mem_cons.mpr ⟨wm316, (fun _ h9 => nomatch h9)⟩)⟩)⟩)⟩) wm574) rfl rfl rfl (by decide +kernel) ⟨Nat.le_of_ble_eq_true rfl, Nat.le_of_ble_eq_true rfl⟩) ⟨fun a U gg mk q => by obtain ⟨q0, q1, qP, qK, qD, qF⟩ := q; exact ⟨q0, q1, qP, va_K.moved (u := U) (U := U.calling gg mk a) (Vm.Alike.refl U.vm) qK, qD, ns_same qF⟩, va_recv hK hP (ci := 0) (q0 := 4) rfl rfl, fun U hU hW => ⟨rfl, by rw [hU], by rw [hU]; exact hPc, va_K.moved hW.alike hKc, hDc.weaken (fun _ _ _ _ => trivial), ns_call hF hS hFc hU hW⟩⟩ rfl rfl hl.1 rfl (lv_room (Nat.le_of_ble_eq_true rfl)) dX16_say_145 ⟨Nat.le_of_ble_eq_true rfl, Nat.le_of_ble_eq_true rfl⟩) hS (fun q _ h => hFc q h) hFc (fun r9 u t H1 locs ht hvm hw hB hz1 hk1 hS => ?_)
    obtain rfl := hw.symm
    obtain ⟨hP1, hK1, hD1⟩ := hB
    rw [ht] at hP1
    have hK1 := va_K.moved hvm.symm hK1
    obtain ⟨hP, hD⟩ := va_join (wr := [(h0, .inr (23, [.int 0, v1, v2, v3, .ref (g 34), v4, v5, v6, v7])), (q1, .inl (cyq1, 6, .inl (upd (upd (upd (upd (upd (upd (fun _ => 0) 0 x0) 1 x1) 2 x2) 3 x3) 4 x4) 5 x5))), (b9, .inl (cb9, 2, .inl fb9)), (t9, .inr (0, [.ref b9, .int 0, .int 0, .int 0])), (q1005, .inr (1, [.ref q1006, .int 0, .int 0, .int 3])), (q1006, .inl (cy1007, 16, .inl (upd ((va_cpy (fb9) ((fun _ => 0)) 0 0 2)) 2 (vp_nar .byte (ns_ch x5).toInt8.toInt32))))]) (w1 := [(q1009, .inl (cy1010, 3, .inl (va_cpy ((upd ((va_cpy (fb9) ((fun _ => 0)) 0 0 2)) 2 (vp_nar .byte (ns_ch x5).toInt8.toInt32))) (fun _ => 0) 0 0 3))), (q1008, .inr (0, [.ref q1009, .int 0, .int 0, .int 0]))]) hP hD [4, 7] [0, 1, 2, 3, 5, 6] rfl rfl (by decide) (by decide) hk1 hFc hP1 hD1
    have hK := (hK.sub (tys' := [(cyq1, .int), (cb9, .byte), (cy1007, .byte)]) [0, 1, 2] rfl).app hK1
    generalize H1 = H at hP hS ⊢
    have hP : va_P (dC, dI) vwCl [(h0, .inr (23, [.int 0, v1, v2, v3, .ref (g 34), v4, v5, v6, v7])), (q1, .inl (cyq1, 6, .inl (upd (upd (upd (upd (upd (upd (fun _ => 0) 0 x0) 1 x1) 2 x2) 3 x3) 4 x4) 5 x5))), (b9, .inl (cb9, 2, .inl fb9)), (t9, .inr (0, [.ref b9, .int 0, .int 0, .int 0])), (q1005, .inr (1, [.ref q1006, .int 0, .int 0, .int 3])), (q1006, .inl (cy1007, 16, .inl (upd ((va_cpy (fb9) ((fun _ => 0)) 0 0 2)) 2 (vp_nar .byte (ns_ch x5).toInt8.toInt32)))), (q1009, .inl (cy1010, 3, .inl (va_cpy ((upd ((va_cpy (fb9) ((fun _ => 0)) 0 0 2)) 2 (vp_nar .byte (ns_ch x5).toInt8.toInt32))) (fun _ => 0) 0 0 3))), (q1008, .inr (0, [.ref q1009, .int 0, .int 0, .int 0]))] H := hP
    have hD : va_D A [(h0, .inr (23, [.int 0, v1, v2, v3, .ref (g 34), v4, v5, v6, v7])), (q1, .inl (cyq1, 6, .inl (upd (upd (upd (upd (upd (upd (fun _ => 0) 0 x0) 1 x1) 2 x2) 3 x3) 4 x4) 5 x5))), (b9, .inl (cb9, 2, .inl fb9)), (t9, .inr (0, [.ref b9, .int 0, .int 0, .int 0])), (q1005, .inr (1, [.ref q1006, .int 0, .int 0, .int 3])), (q1006, .inl (cy1007, 16, .inl (upd ((va_cpy (fb9) ((fun _ => 0)) 0 0 2)) 2 (vp_nar .byte (ns_ch x5).toInt8.toInt32)))), (q1009, .inl (cy1010, 3, .inl (va_cpy ((upd ((va_cpy (fb9) ((fun _ => 0)) 0 0 2)) 2 (vp_nar .byte (ns_ch x5).toInt8.toInt32))) (fun _ => 0) 0 0 3))), (q1008, .inr (0, [.ref q1009, .int 0, .int 0, .int 0]))] := hD
    have hK : va_K (dC, dI) vwCl [(cyq1, .int), (cb9, .byte), (cy1007, .byte), (cy1010, .byte)] s := hK
    refine W.widen (k := 35) (n := 233) (Nat.le_of_ble_eq_true rfl) (Nat.le_of_ble_eq_true rfl) ?_
    refine lv_bipush (v := 60) hx hb dX16_say_148 (by decide) ?_
    refine lv_icmp_le (tgt := 157) hx hb dX16_say_150 (by decide) (fun c1011 => ?_) (fun c1011 => absurd (by decide) c1011)
    refine lv_iconst (v := 0) hx hb dX16_say_157 (by decide) ?_
    refine lv_iconst (v := 2) hx hb dX16_say_158 (by decide) ?_
    have hPc := hP.sub (ws' := [(h0, .inr (23, [.int 0, v1, v2, v3, .ref (g 34), v4, v5, v6, v7]))]) [0] rfl
    have hDc := hD.sub (ws' := [(h0, .inr (23, [.int 0, v1, v2, v3, .ref (g 34), v4, v5, v6, v7]))]) [0] (by decide) rfl
    have hKc := hK.sub (tys' := []) [] rfl
    have hFc := va_free (wc := [(h0, .inr (23, [.int 0, v1, v2, v3, .ref (g 34), v4, v5, v6, v7]))]) hD hS hA [0] rfl
    refine va_calli (va_runV (As := [.int 0, .int 2]) (rest := []) ⟨hx, hb, hml, hown, hts⟩ (kX16_refuse_3 l dC dI g H.size h0 v1 v2 v3 (.ref (g 34)) v4 v5 v6 v7 ) (cwV 2 hts (ns_gp (List.forall_mem_cons.mpr ⟨wm236, (List.forall_mem_cons.mpr ⟨wm237, (List.forall_mem_cons.mpr ⟨wm238, (List.forall_mem_cons.mpr ⟨wm192, (fun _ h9 => nomatch h9)⟩)⟩)⟩)⟩) wm235) rfl rfl rfl (by decide +kernel) ⟨Nat.le_of_ble_eq_true rfl, Nat.le_of_ble_eq_true rfl⟩) ⟨fun a U gg mk q => by obtain ⟨q0, q1, qP, qK, qD, qF⟩ := q; exact ⟨q0, q1, qP, va_K.moved (u := U) (U := U.calling gg mk a) (Vm.Alike.refl U.vm) qK, qD, ns_same qF⟩, va_recv hK hP (ci := 23) (q0 := 0) rfl rfl, fun U hU hW => ⟨rfl, by rw [hU], by rw [hU]; exact hPc, va_K.moved hW.alike hKc, hDc.weaken (fun _ _ _ _ => trivial), ns_call hF hS hFc hU hW⟩⟩ rfl rfl hl.1 rfl (lv_room (Nat.le_of_ble_eq_true rfl)) dX16_say_159 ⟨Nat.le_of_ble_eq_true rfl, Nat.le_of_ble_eq_true rfl⟩) hS (fun q _ h => hFc q h) hFc (fun r9 u t H1 locs ht hvm hw hB hz1 hk1 hS => ?_)
    obtain rfl := hw.symm
    obtain ⟨hP1, hK1, hD1⟩ := hB
    rw [ht] at hP1
    have hK1 := va_K.moved hvm.symm hK1
    obtain ⟨hP, hD⟩ := va_join (wr := [(q1, .inl (cyq1, 6, .inl (upd (upd (upd (upd (upd (upd (fun _ => 0) 0 x0) 1 x1) 2 x2) 3 x3) 4 x4) 5 x5))), (b9, .inl (cb9, 2, .inl fb9)), (t9, .inr (0, [.ref b9, .int 0, .int 0, .int 0])), (q1005, .inr (1, [.ref q1006, .int 0, .int 0, .int 3])), (q1006, .inl (cy1007, 16, .inl (upd ((va_cpy (fb9) ((fun _ => 0)) 0 0 2)) 2 (vp_nar .byte (ns_ch x5).toInt8.toInt32)))), (q1009, .inl (cy1010, 3, .inl (va_cpy ((upd ((va_cpy (fb9) ((fun _ => 0)) 0 0 2)) 2 (vp_nar .byte (ns_ch x5).toInt8.toInt32))) (fun _ => 0) 0 0 3))), (q1008, .inr (0, [.ref q1009, .int 0, .int 0, .int 0]))]) (w1 := [(h0, .inr (23, [.int 0, v1, v2, v3, .ref (g 34), v4, v5, v6, v7]))]) hP hD [0] [1, 2, 3, 4, 5, 6, 7] rfl rfl (by decide) (by decide) hk1 hFc hP1 hD1
    have hK := (hK.sub (tys' := [(cyq1, .int), (cb9, .byte), (cy1007, .byte), (cy1010, .byte)]) [0, 1, 2, 3] rfl).app hK1
    generalize H1 = H at hP hS ⊢
    have hP : va_P (dC, dI) vwCl [(q1, .inl (cyq1, 6, .inl (upd (upd (upd (upd (upd (upd (fun _ => 0) 0 x0) 1 x1) 2 x2) 3 x3) 4 x4) 5 x5))), (b9, .inl (cb9, 2, .inl fb9)), (t9, .inr (0, [.ref b9, .int 0, .int 0, .int 0])), (q1005, .inr (1, [.ref q1006, .int 0, .int 0, .int 3])), (q1006, .inl (cy1007, 16, .inl (upd ((va_cpy (fb9) ((fun _ => 0)) 0 0 2)) 2 (vp_nar .byte (ns_ch x5).toInt8.toInt32)))), (q1009, .inl (cy1010, 3, .inl (va_cpy ((upd ((va_cpy (fb9) ((fun _ => 0)) 0 0 2)) 2 (vp_nar .byte (ns_ch x5).toInt8.toInt32))) (fun _ => 0) 0 0 3))), (q1008, .inr (0, [.ref q1009, .int 0, .int 0, .int 0])), (h0, .inr (23, [.int 0, v1, v2, v3, .ref (g 34), v4, v5, v6, v7]))] H := hP
    have hD : va_D A [(q1, .inl (cyq1, 6, .inl (upd (upd (upd (upd (upd (upd (fun _ => 0) 0 x0) 1 x1) 2 x2) 3 x3) 4 x4) 5 x5))), (b9, .inl (cb9, 2, .inl fb9)), (t9, .inr (0, [.ref b9, .int 0, .int 0, .int 0])), (q1005, .inr (1, [.ref q1006, .int 0, .int 0, .int 3])), (q1006, .inl (cy1007, 16, .inl (upd ((va_cpy (fb9) ((fun _ => 0)) 0 0 2)) 2 (vp_nar .byte (ns_ch x5).toInt8.toInt32)))), (q1009, .inl (cy1010, 3, .inl (va_cpy ((upd ((va_cpy (fb9) ((fun _ => 0)) 0 0 2)) 2 (vp_nar .byte (ns_ch x5).toInt8.toInt32))) (fun _ => 0) 0 0 3))), (q1008, .inr (0, [.ref q1009, .int 0, .int 0, .int 0])), (h0, .inr (23, [.int 0, v1, v2, v3, .ref (g 34), v4, v5, v6, v7]))] := hD
    have hK : va_K (dC, dI) vwCl [(cyq1, .int), (cb9, .byte), (cy1007, .byte), (cy1010, .byte)] s := hK
    refine W.widen (k := 35) (n := 233) (Nat.le_of_ble_eq_true rfl) (Nat.le_of_ble_eq_true rfl) ?_
    refine lv_if_eq (tgt := 167) hx hb dX16_say_162 (by decide) (fun c1012 => ?_) (fun c1012 => absurd (by decide) c1012)
    refine lv_iinc (v := 6) (lv' := [(12, .int 6), (9, .ref q1008), (13, .int x5), (11, .int 6), (10, .ref q1), (0, .ref h0)]) hx hb dX16_say_167 hl (k := 2) rfl (by decide) (by decide) rfl (fun ls hl => ?_)
    refine lv_goto (tgt := 119) hx hb dX16_say_170 (by decide) ?_
    have hP := hP.sub (ws' := [(h0, .inr (23, [.int 0, v1, v2, v3, .ref (g 34), v4, v5, v6, v7])), (q1, .inl (cyq1, 6, .inl (upd (upd (upd (upd (upd (upd (fun _ => 0) 0 x0) 1 x1) 2 x2) 3 x3) 4 x4) 5 x5))), (q1008, .inr (0, [.ref q1009, .int 0, .int 0, .int 0])), (q1009, .inl (cy1010, 3, .inl (va_cpy ((upd ((va_cpy (fb9) ((fun _ => 0)) 0 0 2)) 2 (vp_nar .byte (ns_ch x5).toInt8.toInt32))) (fun _ => 0) 0 0 3)))]) [7, 0, 6, 5] rfl
    have hD := hD.sub (ws' := [(h0, .inr (23, [.int 0, v1, v2, v3, .ref (g 34), v4, v5, v6, v7])), (q1, .inl (cyq1, 6, .inl (upd (upd (upd (upd (upd (upd (fun _ => 0) 0 x0) 1 x1) 2 x2) 3 x3) 4 x4) 5 x5))), (q1008, .inr (0, [.ref q1009, .int 0, .int 0, .int 0])), (q1009, .inl (cy1010, 3, .inl (va_cpy ((upd ((va_cpy (fb9) ((fun _ => 0)) 0 0 2)) 2 (vp_nar .byte (ns_ch x5).toInt8.toInt32))) (fun _ => 0) 0 0 3)))]) [7, 0, 6, 5] (by decide) rfl
    have hK := hK.sub (tys' := [(cyq1, .int), (cy1010, .byte)]) [0, 3] rfl
    have hl := lv_sub hl (l' := [(12, .int 6), (11, .int 6), (10, .ref q1), (9, .ref q1008), (0, .ref h0)]) [0, 3, 4, 1, 5] rfl
    refine W.widen (k := 37) (n := 246) (Nat.le_of_ble_eq_true rfl) (Nat.le_of_ble_eq_true rfl) ?_
    have hE2 : ns_len E9 x5 = 3 := by rw [hE]; exact (ns_lenB x5 2 (by omega) (by omega)).trans (by decide)
    exact ns_say_6_3 (sb_fitC (sb_fitU (sb_fitC hb9 sb_fit0) (pk_fb _)) sb_fit0) hE2 ex0 ex1 ex2 ex3 ex4 ex5 hx hb hml hown hts hA hF hK hP hD hS hl k09 k19 k29 k39 k49 k59 k69
  · have _h9 := 0
    refine lv_aload hx hb dX16_say_133 (lv_at hl 4 rfl) ?_
    refine lv_iload hx hb dX16_say_135 (lv_at hl 0 rfl) ?_
    have hPc := hP.sub (ws' := [(t9, .inr (0, [.ref b9, .int 0, .int 0, .int 0])), (b9, .inl (cb9, 2, .inl fb9))]) [2, 3] rfl
    have hDc := hD.sub (ws' := [(t9, .inr (0, [.ref b9, .int 0, .int 0, .int 0])), (b9, .inl (cb9, 2, .inl fb9))]) [2, 3] (by decide) rfl
    have hKc := hK.sub (tys' := [(cb9, .byte)]) [1] rfl
    have hFc := va_free (wc := [(t9, .inr (0, [.ref b9, .int 0, .int 0, .int 0])), (b9, .inl (cb9, 2, .inl fb9))]) hD hS hA [2, 3] rfl
    refine va_callr (va_runS (As := [.ref t9, .int x5]) (rest := []) ⟨hx, hb, hml, hown, hts⟩ (kX16_said_10 l dC dI g H.size t9 x5 b9 (.int 0) (.int 0) cb9 fb9 hb9 ⟨by omega, by omega⟩) (va_cwS 2 hts (ns_gp (List.forall_mem_cons.mpr ⟨wm655, (List.forall_mem_cons.mpr ⟨wm656, (List.forall_mem_cons.mpr ⟨wm192, (fun _ h9 => nomatch h9)⟩)⟩)⟩) wm604) rfl rfl rfl (by decide +kernel) ⟨Nat.le_of_ble_eq_true rfl, Nat.le_of_ble_eq_true rfl⟩) ⟨fun a U gg mk q => by obtain ⟨q0, q1, qP, qK, qD, qF⟩ := q; exact ⟨q0, q1, qP, va_K.moved (u := U) (U := U.calling gg mk a) (Vm.Alike.refl U.vm) qK, qD, ns_same qF⟩, fun U hU hW => ⟨rfl, by rw [hU], by rw [hU]; exact hPc, va_K.moved hW.alike hKc, hDc.weaken (fun _ _ _ _ => trivial), ns_call hF hS hFc hU hW⟩⟩ rfl rfl hl.1 rfl (lv_room (Nat.le_of_ble_eq_true rfl)) dX16_say_137 ⟨Nat.le_of_ble_eq_true rfl, Nat.le_of_ble_eq_true rfl⟩) hS (fun q _ h => hFc q h) hFc (fun u r9 t H1 locs ht hvm hw hB hz1 hk1 hS => ?_)
    obtain ⟨q1013, q1014, cy1015, hr9, hP1, hK1, hD1⟩ := hB
    obtain rfl := hr9.symm
    rw [ht] at hP1
    have hK1 := va_K.moved hvm.symm hK1
    obtain ⟨hP, hD⟩ := va_join (wr := [(h0, .inr (23, [.int 0, v1, v2, v3, .ref (g 34), v4, v5, v6, v7])), (q1, .inl (cyq1, 6, .inl (upd (upd (upd (upd (upd (upd (fun _ => 0) 0 x0) 1 x1) 2 x2) 3 x3) 4 x4) 5 x5)))]) (w1 := [(t9, .inr (0, [.ref b9, .int 0, .int 0, .int 0])), (b9, .inl (cb9, 2, .inl fb9)), (q1014, .inl (cy1015, 1, .inl (va_cpy (fb9) (fun _ => 0) 0 0 1))), (q1013, .inr (0, [.ref q1014, .int 0, .int 0, .int 0]))]) hP hD [2, 3] [0, 1] rfl rfl (by decide) (by decide) hk1 hFc hP1 hD1
    have hK := (hK.sub (tys' := [(cyq1, .int)]) [0] rfl).app hK1
    generalize H1 = H at hP hS ⊢
    have hP : va_P (dC, dI) vwCl [(h0, .inr (23, [.int 0, v1, v2, v3, .ref (g 34), v4, v5, v6, v7])), (q1, .inl (cyq1, 6, .inl (upd (upd (upd (upd (upd (upd (fun _ => 0) 0 x0) 1 x1) 2 x2) 3 x3) 4 x4) 5 x5))), (t9, .inr (0, [.ref b9, .int 0, .int 0, .int 0])), (b9, .inl (cb9, 2, .inl fb9)), (q1014, .inl (cy1015, 1, .inl (va_cpy (fb9) (fun _ => 0) 0 0 1))), (q1013, .inr (0, [.ref q1014, .int 0, .int 0, .int 0]))] H := hP
    have hD : va_D A [(h0, .inr (23, [.int 0, v1, v2, v3, .ref (g 34), v4, v5, v6, v7])), (q1, .inl (cyq1, 6, .inl (upd (upd (upd (upd (upd (upd (fun _ => 0) 0 x0) 1 x1) 2 x2) 3 x3) 4 x4) 5 x5))), (t9, .inr (0, [.ref b9, .int 0, .int 0, .int 0])), (b9, .inl (cb9, 2, .inl fb9)), (q1014, .inl (cy1015, 1, .inl (va_cpy (fb9) (fun _ => 0) 0 0 1))), (q1013, .inr (0, [.ref q1014, .int 0, .int 0, .int 0]))] := hD
    have hK : va_K (dC, dI) vwCl [(cyq1, .int), (cb9, .byte), (cy1015, .byte)] s := hK
    refine W.widen (k := 33) (n := 211) (Nat.le_of_ble_eq_true rfl) (Nat.le_of_ble_eq_true rfl) ?_
    refine lv_astore (lv' := [(9, .ref q1013), (13, .int x5), (12, .int 5), (11, .int 6), (10, .ref q1), (0, .ref h0)]) hx hb dX16_say_140 hl (by decide) rfl (fun ls hl => ?_)
    refine lv_aload_n hx hb dX16_say_142 rfl (lv_at hl 5 rfl) ?_
    refine lv_aload hx hb dX16_say_143 (lv_at hl 0 rfl) ?_
    have hPc := hP.sub (ws' := [(q1013, .inr (0, [.ref q1014, .int 0, .int 0, .int 0])), (q1014, .inl (cy1015, 1, .inl (va_cpy (fb9) (fun _ => 0) 0 0 1)))]) [5, 4] rfl
    have hDc := hD.sub (ws' := [(q1013, .inr (0, [.ref q1014, .int 0, .int 0, .int 0])), (q1014, .inl (cy1015, 1, .inl (va_cpy (fb9) (fun _ => 0) 0 0 1)))]) [5, 4] (by decide) rfl
    have hKc := hK.sub (tys' := [(cy1015, .byte)]) [2] rfl
    have hFc := va_free (wc := [(q1013, .inr (0, [.ref q1014, .int 0, .int 0, .int 0])), (q1014, .inl (cy1015, 1, .inl (va_cpy (fb9) (fun _ => 0) 0 0 1)))]) hD hS hA [5, 4] rfl
    refine va_calli (va_runV (As := []) (rest := [.ref h0]) ⟨hx, hb, hml, hown, hts⟩ (kJ0_length_8abf5_3 l dC dI g H.size q1013 q1014 (.int 0) (.int 0) cy1015 (va_cpy (fb9) (fun _ => 0) 0 0 1) (sb_fitC hb9 sb_fit0) ) (cwV 0 hts (ns_gp (List.forall_mem_cons.mpr ⟨wm646, (List.forall_mem_cons.mpr ⟨wm595, (List.forall_mem_cons.mpr ⟨wm596, (List.forall_mem_cons.mpr ⟨wm316, (fun _ h9 => nomatch h9)⟩)⟩)⟩)⟩) wm574) rfl rfl rfl (by decide +kernel) ⟨Nat.le_of_ble_eq_true rfl, Nat.le_of_ble_eq_true rfl⟩) ⟨fun a U gg mk q => by obtain ⟨q0, q1, qP, qK, qD, qF⟩ := q; exact ⟨q0, q1, qP, va_K.moved (u := U) (U := U.calling gg mk a) (Vm.Alike.refl U.vm) qK, qD, ns_same qF⟩, va_recv hK hP (ci := 0) (q0 := 5) rfl rfl, fun U hU hW => ⟨rfl, by rw [hU], by rw [hU]; exact hPc, va_K.moved hW.alike hKc, hDc.weaken (fun _ _ _ _ => trivial), ns_call hF hS hFc hU hW⟩⟩ rfl rfl hl.1 rfl (lv_room (Nat.le_of_ble_eq_true rfl)) dX16_say_145 ⟨Nat.le_of_ble_eq_true rfl, Nat.le_of_ble_eq_true rfl⟩) hS (fun q _ h => hFc q h) hFc (fun r9 u t H1 locs ht hvm hw hB hz1 hk1 hS => ?_)
    obtain rfl := hw.symm
    obtain ⟨hP1, hK1, hD1⟩ := hB
    rw [ht] at hP1
    have hK1 := va_K.moved hvm.symm hK1
    obtain ⟨hP, hD⟩ := va_join (wr := [(h0, .inr (23, [.int 0, v1, v2, v3, .ref (g 34), v4, v5, v6, v7])), (q1, .inl (cyq1, 6, .inl (upd (upd (upd (upd (upd (upd (fun _ => 0) 0 x0) 1 x1) 2 x2) 3 x3) 4 x4) 5 x5))), (t9, .inr (0, [.ref b9, .int 0, .int 0, .int 0])), (b9, .inl (cb9, 2, .inl fb9))]) (w1 := [(q1014, .inl (cy1015, 1, .inl (va_cpy (fb9) (fun _ => 0) 0 0 1))), (q1013, .inr (0, [.ref q1014, .int 0, .int 0, .int 0]))]) hP hD [5, 4] [0, 1, 2, 3] rfl rfl (by decide) (by decide) hk1 hFc hP1 hD1
    have hK := (hK.sub (tys' := [(cyq1, .int), (cb9, .byte)]) [0, 1] rfl).app hK1
    generalize H1 = H at hP hS ⊢
    have hP : va_P (dC, dI) vwCl [(h0, .inr (23, [.int 0, v1, v2, v3, .ref (g 34), v4, v5, v6, v7])), (q1, .inl (cyq1, 6, .inl (upd (upd (upd (upd (upd (upd (fun _ => 0) 0 x0) 1 x1) 2 x2) 3 x3) 4 x4) 5 x5))), (t9, .inr (0, [.ref b9, .int 0, .int 0, .int 0])), (b9, .inl (cb9, 2, .inl fb9)), (q1014, .inl (cy1015, 1, .inl (va_cpy (fb9) (fun _ => 0) 0 0 1))), (q1013, .inr (0, [.ref q1014, .int 0, .int 0, .int 0]))] H := hP
    have hD : va_D A [(h0, .inr (23, [.int 0, v1, v2, v3, .ref (g 34), v4, v5, v6, v7])), (q1, .inl (cyq1, 6, .inl (upd (upd (upd (upd (upd (upd (fun _ => 0) 0 x0) 1 x1) 2 x2) 3 x3) 4 x4) 5 x5))), (t9, .inr (0, [.ref b9, .int 0, .int 0, .int 0])), (b9, .inl (cb9, 2, .inl fb9)), (q1014, .inl (cy1015, 1, .inl (va_cpy (fb9) (fun _ => 0) 0 0 1))), (q1013, .inr (0, [.ref q1014, .int 0, .int 0, .int 0]))] := hD
    have hK : va_K (dC, dI) vwCl [(cyq1, .int), (cb9, .byte), (cy1015, .byte)] s := hK
    refine W.widen (k := 33) (n := 211) (Nat.le_of_ble_eq_true rfl) (Nat.le_of_ble_eq_true rfl) ?_
    refine lv_bipush (v := 60) hx hb dX16_say_148 (by decide) ?_
    refine lv_icmp_le (tgt := 157) hx hb dX16_say_150 (by decide) (fun c1016 => ?_) (fun c1016 => absurd (by decide) c1016)
    refine lv_iconst (v := 0) hx hb dX16_say_157 (by decide) ?_
    refine lv_iconst (v := 2) hx hb dX16_say_158 (by decide) ?_
    have hPc := hP.sub (ws' := [(h0, .inr (23, [.int 0, v1, v2, v3, .ref (g 34), v4, v5, v6, v7]))]) [0] rfl
    have hDc := hD.sub (ws' := [(h0, .inr (23, [.int 0, v1, v2, v3, .ref (g 34), v4, v5, v6, v7]))]) [0] (by decide) rfl
    have hKc := hK.sub (tys' := []) [] rfl
    have hFc := va_free (wc := [(h0, .inr (23, [.int 0, v1, v2, v3, .ref (g 34), v4, v5, v6, v7]))]) hD hS hA [0] rfl
    refine va_calli (va_runV (As := [.int 0, .int 2]) (rest := []) ⟨hx, hb, hml, hown, hts⟩ (kX16_refuse_3 l dC dI g H.size h0 v1 v2 v3 (.ref (g 34)) v4 v5 v6 v7 ) (cwV 2 hts (ns_gp (List.forall_mem_cons.mpr ⟨wm236, (List.forall_mem_cons.mpr ⟨wm237, (List.forall_mem_cons.mpr ⟨wm238, (List.forall_mem_cons.mpr ⟨wm192, (fun _ h9 => nomatch h9)⟩)⟩)⟩)⟩) wm235) rfl rfl rfl (by decide +kernel) ⟨Nat.le_of_ble_eq_true rfl, Nat.le_of_ble_eq_true rfl⟩) ⟨fun a U gg mk q => by obtain ⟨q0, q1, qP, qK, qD, qF⟩ := q; exact ⟨q0, q1, qP, va_K.moved (u := U) (U := U.calling gg mk a) (Vm.Alike.refl U.vm) qK, qD, ns_same qF⟩, va_recv hK hP (ci := 23) (q0 := 0) rfl rfl, fun U hU hW => ⟨rfl, by rw [hU], by rw [hU]; exact hPc, va_K.moved hW.alike hKc, hDc.weaken (fun _ _ _ _ => trivial), ns_call hF hS hFc hU hW⟩⟩ rfl rfl hl.1 rfl (lv_room (Nat.le_of_ble_eq_true rfl)) dX16_say_159 ⟨Nat.le_of_ble_eq_true rfl, Nat.le_of_ble_eq_true rfl⟩) hS (fun q _ h => hFc q h) hFc (fun r9 u t H1 locs ht hvm hw hB hz1 hk1 hS => ?_)
    obtain rfl := hw.symm
    obtain ⟨hP1, hK1, hD1⟩ := hB
    rw [ht] at hP1
    have hK1 := va_K.moved hvm.symm hK1
    obtain ⟨hP, hD⟩ := va_join (wr := [(q1, .inl (cyq1, 6, .inl (upd (upd (upd (upd (upd (upd (fun _ => 0) 0 x0) 1 x1) 2 x2) 3 x3) 4 x4) 5 x5))), (t9, .inr (0, [.ref b9, .int 0, .int 0, .int 0])), (b9, .inl (cb9, 2, .inl fb9)), (q1014, .inl (cy1015, 1, .inl (va_cpy (fb9) (fun _ => 0) 0 0 1))), (q1013, .inr (0, [.ref q1014, .int 0, .int 0, .int 0]))]) (w1 := [(h0, .inr (23, [.int 0, v1, v2, v3, .ref (g 34), v4, v5, v6, v7]))]) hP hD [0] [1, 2, 3, 4, 5] rfl rfl (by decide) (by decide) hk1 hFc hP1 hD1
    have hK := (hK.sub (tys' := [(cyq1, .int), (cb9, .byte), (cy1015, .byte)]) [0, 1, 2] rfl).app hK1
    generalize H1 = H at hP hS ⊢
    have hP : va_P (dC, dI) vwCl [(q1, .inl (cyq1, 6, .inl (upd (upd (upd (upd (upd (upd (fun _ => 0) 0 x0) 1 x1) 2 x2) 3 x3) 4 x4) 5 x5))), (t9, .inr (0, [.ref b9, .int 0, .int 0, .int 0])), (b9, .inl (cb9, 2, .inl fb9)), (q1014, .inl (cy1015, 1, .inl (va_cpy (fb9) (fun _ => 0) 0 0 1))), (q1013, .inr (0, [.ref q1014, .int 0, .int 0, .int 0])), (h0, .inr (23, [.int 0, v1, v2, v3, .ref (g 34), v4, v5, v6, v7]))] H := hP
    have hD : va_D A [(q1, .inl (cyq1, 6, .inl (upd (upd (upd (upd (upd (upd (fun _ => 0) 0 x0) 1 x1) 2 x2) 3 x3) 4 x4) 5 x5))), (t9, .inr (0, [.ref b9, .int 0, .int 0, .int 0])), (b9, .inl (cb9, 2, .inl fb9)), (q1014, .inl (cy1015, 1, .inl (va_cpy (fb9) (fun _ => 0) 0 0 1))), (q1013, .inr (0, [.ref q1014, .int 0, .int 0, .int 0])), (h0, .inr (23, [.int 0, v1, v2, v3, .ref (g 34), v4, v5, v6, v7]))] := hD
    have hK : va_K (dC, dI) vwCl [(cyq1, .int), (cb9, .byte), (cy1015, .byte)] s := hK
    refine W.widen (k := 33) (n := 211) (Nat.le_of_ble_eq_true rfl) (Nat.le_of_ble_eq_true rfl) ?_
    refine lv_if_eq (tgt := 167) hx hb dX16_say_162 (by decide) (fun c1017 => ?_) (fun c1017 => absurd (by decide) c1017)
    refine lv_iinc (v := 6) (lv' := [(12, .int 6), (9, .ref q1013), (13, .int x5), (11, .int 6), (10, .ref q1), (0, .ref h0)]) hx hb dX16_say_167 hl (k := 2) rfl (by decide) (by decide) rfl (fun ls hl => ?_)
    refine lv_goto (tgt := 119) hx hb dX16_say_170 (by decide) ?_
    have hP := hP.sub (ws' := [(h0, .inr (23, [.int 0, v1, v2, v3, .ref (g 34), v4, v5, v6, v7])), (q1, .inl (cyq1, 6, .inl (upd (upd (upd (upd (upd (upd (fun _ => 0) 0 x0) 1 x1) 2 x2) 3 x3) 4 x4) 5 x5))), (q1013, .inr (0, [.ref q1014, .int 0, .int 0, .int 0])), (q1014, .inl (cy1015, 1, .inl (va_cpy (fb9) (fun _ => 0) 0 0 1)))]) [5, 0, 4, 3] rfl
    have hD := hD.sub (ws' := [(h0, .inr (23, [.int 0, v1, v2, v3, .ref (g 34), v4, v5, v6, v7])), (q1, .inl (cyq1, 6, .inl (upd (upd (upd (upd (upd (upd (fun _ => 0) 0 x0) 1 x1) 2 x2) 3 x3) 4 x4) 5 x5))), (q1013, .inr (0, [.ref q1014, .int 0, .int 0, .int 0])), (q1014, .inl (cy1015, 1, .inl (va_cpy (fb9) (fun _ => 0) 0 0 1)))]) [5, 0, 4, 3] (by decide) rfl
    have hK := hK.sub (tys' := [(cyq1, .int), (cy1015, .byte)]) [0, 2] rfl
    have hl := lv_sub hl (l' := [(12, .int 6), (11, .int 6), (10, .ref q1), (9, .ref q1013), (0, .ref h0)]) [0, 3, 4, 1, 5] rfl
    refine W.widen (k := 37) (n := 246) (Nat.le_of_ble_eq_true rfl) (Nat.le_of_ble_eq_true rfl) ?_
    have hE2 : ns_len E9 x5 = 1 := by rw [hE]; exact (ns_lenC x5 2 (by decide) (by omega)).trans (by decide)
    exact ns_say_6_1 (sb_fitC hb9 sb_fit0) hE2 ex0 ex1 ex2 ex3 ex4 ex5 hx hb hml hown hts hA hF hK hP hD hS hl k09 k19 k29 k39 k49 k59 k69
  · have _h9 := 0
    refine lv_aload hx hb dX16_say_133 (lv_at hl 4 rfl) ?_
    refine lv_iload hx hb dX16_say_135 (lv_at hl 0 rfl) ?_
    have hPc := hP.sub (ws' := []) [] rfl
    have hDc := hD.sub (ws' := []) [] (by decide) rfl
    have hKc := hK.sub (tys' := []) [] rfl
    have hFc := va_free (wc := []) hD hS hA [] rfl
    refine va_callr (va_runS (As := [.ref t9, .int x5]) (rest := []) ⟨hx, hb, hml, hown, hts⟩ (kX16_said_8 l dC dI g H.size t9 x5 ⟨by omega, by omega⟩) (va_cwS 2 hts (ns_gp (List.forall_mem_cons.mpr ⟨wm655, (List.forall_mem_cons.mpr ⟨wm656, (List.forall_mem_cons.mpr ⟨wm192, (fun _ h9 => nomatch h9)⟩)⟩)⟩) wm604) rfl rfl rfl (by decide +kernel) ⟨Nat.le_of_ble_eq_true rfl, Nat.le_of_ble_eq_true rfl⟩) ⟨fun a U gg mk q => by obtain ⟨q0, q1, qP, qK, qD, qF⟩ := q; exact ⟨q0, q1, qP, va_K.moved (u := U) (U := U.calling gg mk a) (Vm.Alike.refl U.vm) qK, qD, ns_same qF⟩, fun U hU hW => ⟨rfl, by rw [hU], by rw [hU]; exact hPc, va_K.moved hW.alike hKc, hDc.weaken (fun _ _ _ _ => trivial), ns_call hF hS hFc hU hW⟩⟩ rfl rfl hl.1 rfl (lv_room (Nat.le_of_ble_eq_true rfl)) dX16_say_137 ⟨Nat.le_of_ble_eq_true rfl, Nat.le_of_ble_eq_true rfl⟩) hS (fun q _ h => hFc q h) hFc (fun u r9 t H1 locs ht hvm hw hB hz1 hk1 hS => ?_)
    obtain ⟨hr9, hP1, hK1, hD1⟩ := hB
    obtain rfl := hr9.symm
    rw [ht] at hP1
    have hK1 := va_K.moved hvm.symm hK1
    obtain ⟨hP, hD⟩ := va_join (wr := [(h0, .inr (23, [.int 0, v1, v2, v3, .ref (g 34), v4, v5, v6, v7])), (q1, .inl (cyq1, 6, .inl (upd (upd (upd (upd (upd (upd (fun _ => 0) 0 x0) 1 x1) 2 x2) 3 x3) 4 x4) 5 x5))), (t9, .inr (0, [.ref b9, .int 0, .int 0, .int 0])), (b9, .inl (cb9, 2, .inl fb9))]) (w1 := []) hP hD [] [0, 1, 2, 3] rfl rfl (by decide) (by decide) hk1 hFc hP1 hD1
    have hK := (hK.sub (tys' := [(cyq1, .int), (cb9, .byte)]) [0, 1] rfl).app hK1
    generalize H1 = H at hP hS ⊢
    have hP : va_P (dC, dI) vwCl [(h0, .inr (23, [.int 0, v1, v2, v3, .ref (g 34), v4, v5, v6, v7])), (q1, .inl (cyq1, 6, .inl (upd (upd (upd (upd (upd (upd (fun _ => 0) 0 x0) 1 x1) 2 x2) 3 x3) 4 x4) 5 x5))), (t9, .inr (0, [.ref b9, .int 0, .int 0, .int 0])), (b9, .inl (cb9, 2, .inl fb9))] H := hP
    have hD : va_D A [(h0, .inr (23, [.int 0, v1, v2, v3, .ref (g 34), v4, v5, v6, v7])), (q1, .inl (cyq1, 6, .inl (upd (upd (upd (upd (upd (upd (fun _ => 0) 0 x0) 1 x1) 2 x2) 3 x3) 4 x4) 5 x5))), (t9, .inr (0, [.ref b9, .int 0, .int 0, .int 0])), (b9, .inl (cb9, 2, .inl fb9))] := hD
    have hK : va_K (dC, dI) vwCl [(cyq1, .int), (cb9, .byte)] s := hK
    refine W.widen (k := 31) (n := 206) (Nat.le_of_ble_eq_true rfl) (Nat.le_of_ble_eq_true rfl) ?_
    refine lv_astore (lv' := [(9, .ref (g 34)), (13, .int x5), (12, .int 5), (11, .int 6), (10, .ref q1), (0, .ref h0)]) hx hb dX16_say_140 hl (by decide) rfl (fun ls hl => ?_)
    refine lv_aload_n hx hb dX16_say_142 rfl (lv_at hl 5 rfl) ?_
    refine lv_aload hx hb dX16_say_143 (lv_at hl 0 rfl) ?_
    have hPc := hP.sub (ws' := []) [] rfl
    have hDc := hD.sub (ws' := []) [] (by decide) rfl
    have hKc := hK.sub (tys' := []) [] rfl
    have hFc := va_free (wc := []) hD hS hA [] rfl
    refine va_calli (va_runV (As := []) (rest := [.ref h0]) ⟨hx, hb, hml, hown, hts⟩ (kJ0_length_8abf5_2 l dC dI g H.size  ) (cwV 0 hts (ns_gp (List.forall_mem_cons.mpr ⟨wm646, (List.forall_mem_cons.mpr ⟨wm595, (List.forall_mem_cons.mpr ⟨wm596, (List.forall_mem_cons.mpr ⟨wm316, (fun _ h9 => nomatch h9)⟩)⟩)⟩)⟩) wm574) rfl rfl rfl (by decide +kernel) ⟨Nat.le_of_ble_eq_true rfl, Nat.le_of_ble_eq_true rfl⟩) ⟨fun a U gg mk q => by obtain ⟨q0, q1, qP, qK, qD, qF⟩ := q; exact ⟨q0, q1, qP, va_K.moved (u := U) (U := U.calling gg mk a) (Vm.Alike.refl U.vm) qK, qD, ns_same qF⟩, va_Orecv (ns_f38 hF) hS, fun U hU hW => ⟨rfl, by rw [hU], by rw [hU]; exact hPc, va_K.moved hW.alike hKc, hDc.weaken (fun _ _ _ _ => trivial), ns_call hF hS hFc hU hW⟩⟩ rfl rfl hl.1 rfl (lv_room (Nat.le_of_ble_eq_true rfl)) dX16_say_145 ⟨Nat.le_of_ble_eq_true rfl, Nat.le_of_ble_eq_true rfl⟩) hS (fun q _ h => hFc q h) hFc (fun r9 u t H1 locs ht hvm hw hB hz1 hk1 hS => ?_)
    obtain rfl := hw.symm
    obtain ⟨hP1, hK1, hD1⟩ := hB
    rw [ht] at hP1
    have hK1 := va_K.moved hvm.symm hK1
    obtain ⟨hP, hD⟩ := va_join (wr := [(h0, .inr (23, [.int 0, v1, v2, v3, .ref (g 34), v4, v5, v6, v7])), (q1, .inl (cyq1, 6, .inl (upd (upd (upd (upd (upd (upd (fun _ => 0) 0 x0) 1 x1) 2 x2) 3 x3) 4 x4) 5 x5))), (t9, .inr (0, [.ref b9, .int 0, .int 0, .int 0])), (b9, .inl (cb9, 2, .inl fb9))]) (w1 := []) hP hD [] [0, 1, 2, 3] rfl rfl (by decide) (by decide) hk1 hFc hP1 hD1
    have hK := (hK.sub (tys' := [(cyq1, .int), (cb9, .byte)]) [0, 1] rfl).app hK1
    generalize H1 = H at hP hS ⊢
    have hP : va_P (dC, dI) vwCl [(h0, .inr (23, [.int 0, v1, v2, v3, .ref (g 34), v4, v5, v6, v7])), (q1, .inl (cyq1, 6, .inl (upd (upd (upd (upd (upd (upd (fun _ => 0) 0 x0) 1 x1) 2 x2) 3 x3) 4 x4) 5 x5))), (t9, .inr (0, [.ref b9, .int 0, .int 0, .int 0])), (b9, .inl (cb9, 2, .inl fb9))] H := hP
    have hD : va_D A [(h0, .inr (23, [.int 0, v1, v2, v3, .ref (g 34), v4, v5, v6, v7])), (q1, .inl (cyq1, 6, .inl (upd (upd (upd (upd (upd (upd (fun _ => 0) 0 x0) 1 x1) 2 x2) 3 x3) 4 x4) 5 x5))), (t9, .inr (0, [.ref b9, .int 0, .int 0, .int 0])), (b9, .inl (cb9, 2, .inl fb9))] := hD
    have hK : va_K (dC, dI) vwCl [(cyq1, .int), (cb9, .byte)] s := hK
    refine W.widen (k := 31) (n := 206) (Nat.le_of_ble_eq_true rfl) (Nat.le_of_ble_eq_true rfl) ?_
    refine lv_bipush (v := 60) hx hb dX16_say_148 (by decide) ?_
    refine lv_icmp_le (tgt := 157) hx hb dX16_say_150 (by decide) (fun c1018 => ?_) (fun c1018 => absurd (by decide) c1018)
    refine lv_iconst (v := 0) hx hb dX16_say_157 (by decide) ?_
    refine lv_iconst (v := 2) hx hb dX16_say_158 (by decide) ?_
    have hPc := hP.sub (ws' := [(h0, .inr (23, [.int 0, v1, v2, v3, .ref (g 34), v4, v5, v6, v7]))]) [0] rfl
    have hDc := hD.sub (ws' := [(h0, .inr (23, [.int 0, v1, v2, v3, .ref (g 34), v4, v5, v6, v7]))]) [0] (by decide) rfl
    have hKc := hK.sub (tys' := []) [] rfl
    have hFc := va_free (wc := [(h0, .inr (23, [.int 0, v1, v2, v3, .ref (g 34), v4, v5, v6, v7]))]) hD hS hA [0] rfl
    refine va_calli (va_runV (As := [.int 0, .int 2]) (rest := []) ⟨hx, hb, hml, hown, hts⟩ (kX16_refuse_3 l dC dI g H.size h0 v1 v2 v3 (.ref (g 34)) v4 v5 v6 v7 ) (cwV 2 hts (ns_gp (List.forall_mem_cons.mpr ⟨wm236, (List.forall_mem_cons.mpr ⟨wm237, (List.forall_mem_cons.mpr ⟨wm238, (List.forall_mem_cons.mpr ⟨wm192, (fun _ h9 => nomatch h9)⟩)⟩)⟩)⟩) wm235) rfl rfl rfl (by decide +kernel) ⟨Nat.le_of_ble_eq_true rfl, Nat.le_of_ble_eq_true rfl⟩) ⟨fun a U gg mk q => by obtain ⟨q0, q1, qP, qK, qD, qF⟩ := q; exact ⟨q0, q1, qP, va_K.moved (u := U) (U := U.calling gg mk a) (Vm.Alike.refl U.vm) qK, qD, ns_same qF⟩, va_recv hK hP (ci := 23) (q0 := 0) rfl rfl, fun U hU hW => ⟨rfl, by rw [hU], by rw [hU]; exact hPc, va_K.moved hW.alike hKc, hDc.weaken (fun _ _ _ _ => trivial), ns_call hF hS hFc hU hW⟩⟩ rfl rfl hl.1 rfl (lv_room (Nat.le_of_ble_eq_true rfl)) dX16_say_159 ⟨Nat.le_of_ble_eq_true rfl, Nat.le_of_ble_eq_true rfl⟩) hS (fun q _ h => hFc q h) hFc (fun r9 u t H1 locs ht hvm hw hB hz1 hk1 hS => ?_)
    obtain rfl := hw.symm
    obtain ⟨hP1, hK1, hD1⟩ := hB
    rw [ht] at hP1
    have hK1 := va_K.moved hvm.symm hK1
    obtain ⟨hP, hD⟩ := va_join (wr := [(q1, .inl (cyq1, 6, .inl (upd (upd (upd (upd (upd (upd (fun _ => 0) 0 x0) 1 x1) 2 x2) 3 x3) 4 x4) 5 x5))), (t9, .inr (0, [.ref b9, .int 0, .int 0, .int 0])), (b9, .inl (cb9, 2, .inl fb9))]) (w1 := [(h0, .inr (23, [.int 0, v1, v2, v3, .ref (g 34), v4, v5, v6, v7]))]) hP hD [0] [1, 2, 3] rfl rfl (by decide) (by decide) hk1 hFc hP1 hD1
    have hK := (hK.sub (tys' := [(cyq1, .int), (cb9, .byte)]) [0, 1] rfl).app hK1
    generalize H1 = H at hP hS ⊢
    have hP : va_P (dC, dI) vwCl [(q1, .inl (cyq1, 6, .inl (upd (upd (upd (upd (upd (upd (fun _ => 0) 0 x0) 1 x1) 2 x2) 3 x3) 4 x4) 5 x5))), (t9, .inr (0, [.ref b9, .int 0, .int 0, .int 0])), (b9, .inl (cb9, 2, .inl fb9)), (h0, .inr (23, [.int 0, v1, v2, v3, .ref (g 34), v4, v5, v6, v7]))] H := hP
    have hD : va_D A [(q1, .inl (cyq1, 6, .inl (upd (upd (upd (upd (upd (upd (fun _ => 0) 0 x0) 1 x1) 2 x2) 3 x3) 4 x4) 5 x5))), (t9, .inr (0, [.ref b9, .int 0, .int 0, .int 0])), (b9, .inl (cb9, 2, .inl fb9)), (h0, .inr (23, [.int 0, v1, v2, v3, .ref (g 34), v4, v5, v6, v7]))] := hD
    have hK : va_K (dC, dI) vwCl [(cyq1, .int), (cb9, .byte)] s := hK
    refine W.widen (k := 31) (n := 206) (Nat.le_of_ble_eq_true rfl) (Nat.le_of_ble_eq_true rfl) ?_
    refine lv_if_eq (tgt := 167) hx hb dX16_say_162 (by decide) (fun c1019 => ?_) (fun c1019 => absurd (by decide) c1019)
    refine lv_iinc (v := 6) (lv' := [(12, .int 6), (9, .ref (g 34)), (13, .int x5), (11, .int 6), (10, .ref q1), (0, .ref h0)]) hx hb dX16_say_167 hl (k := 2) rfl (by decide) (by decide) rfl (fun ls hl => ?_)
    refine lv_goto (tgt := 119) hx hb dX16_say_170 (by decide) ?_
    have hP := hP.sub (ws' := [(h0, .inr (23, [.int 0, v1, v2, v3, .ref (g 34), v4, v5, v6, v7])), (q1, .inl (cyq1, 6, .inl (upd (upd (upd (upd (upd (upd (fun _ => 0) 0 x0) 1 x1) 2 x2) 3 x3) 4 x4) 5 x5)))]) [3, 0] rfl
    have hD := hD.sub (ws' := [(h0, .inr (23, [.int 0, v1, v2, v3, .ref (g 34), v4, v5, v6, v7])), (q1, .inl (cyq1, 6, .inl (upd (upd (upd (upd (upd (upd (fun _ => 0) 0 x0) 1 x1) 2 x2) 3 x3) 4 x4) 5 x5)))]) [3, 0] (by decide) rfl
    have hK := hK.sub (tys' := [(cyq1, .int)]) [0] rfl
    have hl := lv_sub hl (l' := [(12, .int 6), (11, .int 6), (10, .ref q1), (9, .ref (g 34)), (0, .ref h0)]) [0, 3, 4, 1, 5] rfl
    refine W.widen (k := 37) (n := 246) (Nat.le_of_ble_eq_true rfl) (Nat.le_of_ble_eq_true rfl) ?_
    have hE2 : ns_len E9 x5 = 0 := by rw [hE]; exact ns_lenD x5 2 (by omega)
    exact ns_say_6_0 hE2 ex0 ex1 ex2 ex3 ex4 ex5 hx hb hml hown hts hA hF hK hP hD hS hl k09 k19 k29 k39 k49 k59 k69
set_option maxHeartbeats 4000000 in
set_option maxRecDepth 100000 in
theorem ns_say_5_1 {p : Program} {l : Launch} {e : Env} {s : State} {m : MethodId} {args : Array Value} {below : List Frame} {meth : Method} {c : Code} {dC : Nat → ClassId} {dI : Nat → Nat → Nat} {g : Nat → Nat} {A : Nat → Prop} {Q : State → Prop} {h0 : Nat} {x0 : Int32} {x1 : Int32} {x2 : Int32} {x3 : Int32} {x4 : Int32} {x5 : Int32} {v1 : Value} {v2 : Value} {v3 : Value} {v4 : Value} {v5 : Value} {v6 : Value} {v7 : Value} {q1 : Nat} {cyq1 : ClassId} {t9 b9 : Nat} {cb9 : ClassId} {fb9 : Nat → Int32} (hb9 : sb_Fit fb9) {H : Heap} {locs : List Loc} {ls : Array Slot} {E9 : Int32} (hE : E9 = 1) (ex0 : (-1 : Int) ≤ x0.toInt ∧ x0.toInt ≤ (21 : Int)) (ex1 : (-1 : Int) ≤ x1.toInt ∧ x1.toInt ≤ (21 : Int)) (ex2 : (-1 : Int) ≤ x2.toInt ∧ x2.toInt ≤ (21 : Int)) (ex3 : (-1 : Int) ≤ x3.toInt ∧ x3.toInt ≤ (21 : Int)) (ex4 : (-1 : Int) ≤ x4.toInt ∧ x4.toInt ≤ (21 : Int)) (ex5 : (-1 : Int) ≤ x5.toInt ∧ x5.toInt ≤ (21 : Int)) (hx : p.tables.exec = Jvm.exec) (hb : c.code = cX16_say) (hml : c.maxLocals = 14) (hown : s.vm.findClass RX16 = some m.cls) (hts : ∀ w ∈ wbX16_say, w.before args s = true) (hA : ∀ q : Nat, s.heap.size ≤ q → A q) (hF : ns_F g A s s.heap) (hK : va_K (dC, dI) vwCl [(cyq1, .int), (cb9, .byte)] s) (hP : va_P (dC, dI) vwCl [(h0, .inr (23, [.int 0, v1, v2, v3, .ref (g 34), v4, v5, v6, v7])), (q1, .inl (cyq1, 6, .inl (upd (upd (upd (upd (upd (upd (fun _ => 0) 0 x0) 1 x1) 2 x2) 3 x3) 4 x4) 5 x5))), (t9, .inr (0, [.ref b9, .int 0, .int 0, .int 0])), (b9, .inl (cb9, 1, .inl fb9))] H) (hD : va_D A [(h0, .inr (23, [.int 0, v1, v2, v3, .ref (g 34), v4, v5, v6, v7])), (q1, .inl (cyq1, 6, .inl (upd (upd (upd (upd (upd (upd (fun _ => 0) 0 x0) 1 x1) 2 x2) 3 x3) 4 x4) 5 x5))), (t9, .inr (0, [.ref b9, .int 0, .int 0, .int 0])), (b9, .inl (cb9, 1, .inl fb9))]) (hS : va_S A s.heap H locs) (hl : lv_has ls 14 [(12, .int 5), (11, .int 6), (10, .ref q1), (9, .ref t9), (0, .ref h0)]) (k09 : ∀ (H : Heap) (locs : List Loc) (ls : Array Slot), (ns_len E9 x5) = 0 → va_K (dC, dI) vwCl [(cyq1, .int)] s → va_P (dC, dI) vwCl [(h0, .inr (23, [.int 0, v1, v2, v3, .ref (g 34), v4, v5, v6, v7])), (q1, .inl (cyq1, 6, .inl (upd (upd (upd (upd (upd (upd (fun _ => 0) 0 x0) 1 x1) 2 x2) 3 x3) 4 x4) 5 x5)))] H → va_D A [(h0, .inr (23, [.int 0, v1, v2, v3, .ref (g 34), v4, v5, v6, v7])), (q1, .inl (cyq1, 6, .inl (upd (upd (upd (upd (upd (upd (fun _ => 0) 0 x0) 1 x1) 2 x2) 3 x3) 4 x4) 5 x5)))] → va_S A s.heap H locs → lv_has ls 14 [(9, .ref (g 34)), (0, .ref h0)] → W p l e ({ frames := 7, cells := 37, slots := 246, locals := 172 } : Room) s m args below meth c H locs 37 246 Q (F0 m 173 ls [])) (k19 : ∀ (t9 b9 : Nat) (cb9 : ClassId) (fb9 : Nat → Int32) (hb9 : sb_Fit fb9), ∀ (H : Heap) (locs : List Loc) (ls : Array Slot), (ns_len E9 x5) = 1 → va_K (dC, dI) vwCl [(cyq1, .int), (cb9, .byte)] s → va_P (dC, dI) vwCl [(h0, .inr (23, [.int 0, v1, v2, v3, .ref (g 34), v4, v5, v6, v7])), (q1, .inl (cyq1, 6, .inl (upd (upd (upd (upd (upd (upd (fun _ => 0) 0 x0) 1 x1) 2 x2) 3 x3) 4 x4) 5 x5))), (t9, .inr (0, [.ref b9, .int 0, .int 0, .int 0])), (b9, .inl (cb9, 1, .inl fb9))] H → va_D A [(h0, .inr (23, [.int 0, v1, v2, v3, .ref (g 34), v4, v5, v6, v7])), (q1, .inl (cyq1, 6, .inl (upd (upd (upd (upd (upd (upd (fun _ => 0) 0 x0) 1 x1) 2 x2) 3 x3) 4 x4) 5 x5))), (t9, .inr (0, [.ref b9, .int 0, .int 0, .int 0])), (b9, .inl (cb9, 1, .inl fb9))] → va_S A s.heap H locs → lv_has ls 14 [(9, .ref t9), (0, .ref h0)] → W p l e ({ frames := 7, cells := 37, slots := 246, locals := 172 } : Room) s m args below meth c H locs 37 246 Q (F0 m 173 ls [])) (k29 : ∀ (t9 b9 : Nat) (cb9 : ClassId) (fb9 : Nat → Int32) (hb9 : sb_Fit fb9), ∀ (H : Heap) (locs : List Loc) (ls : Array Slot), (ns_len E9 x5) = 2 → va_K (dC, dI) vwCl [(cyq1, .int), (cb9, .byte)] s → va_P (dC, dI) vwCl [(h0, .inr (23, [.int 0, v1, v2, v3, .ref (g 34), v4, v5, v6, v7])), (q1, .inl (cyq1, 6, .inl (upd (upd (upd (upd (upd (upd (fun _ => 0) 0 x0) 1 x1) 2 x2) 3 x3) 4 x4) 5 x5))), (t9, .inr (0, [.ref b9, .int 0, .int 0, .int 0])), (b9, .inl (cb9, 2, .inl fb9))] H → va_D A [(h0, .inr (23, [.int 0, v1, v2, v3, .ref (g 34), v4, v5, v6, v7])), (q1, .inl (cyq1, 6, .inl (upd (upd (upd (upd (upd (upd (fun _ => 0) 0 x0) 1 x1) 2 x2) 3 x3) 4 x4) 5 x5))), (t9, .inr (0, [.ref b9, .int 0, .int 0, .int 0])), (b9, .inl (cb9, 2, .inl fb9))] → va_S A s.heap H locs → lv_has ls 14 [(9, .ref t9), (0, .ref h0)] → W p l e ({ frames := 7, cells := 37, slots := 246, locals := 172 } : Room) s m args below meth c H locs 37 246 Q (F0 m 173 ls [])) (k39 : ∀ (t9 b9 : Nat) (cb9 : ClassId) (fb9 : Nat → Int32) (hb9 : sb_Fit fb9), ∀ (H : Heap) (locs : List Loc) (ls : Array Slot), (ns_len E9 x5) = 3 → va_K (dC, dI) vwCl [(cyq1, .int), (cb9, .byte)] s → va_P (dC, dI) vwCl [(h0, .inr (23, [.int 0, v1, v2, v3, .ref (g 34), v4, v5, v6, v7])), (q1, .inl (cyq1, 6, .inl (upd (upd (upd (upd (upd (upd (fun _ => 0) 0 x0) 1 x1) 2 x2) 3 x3) 4 x4) 5 x5))), (t9, .inr (0, [.ref b9, .int 0, .int 0, .int 0])), (b9, .inl (cb9, 3, .inl fb9))] H → va_D A [(h0, .inr (23, [.int 0, v1, v2, v3, .ref (g 34), v4, v5, v6, v7])), (q1, .inl (cyq1, 6, .inl (upd (upd (upd (upd (upd (upd (fun _ => 0) 0 x0) 1 x1) 2 x2) 3 x3) 4 x4) 5 x5))), (t9, .inr (0, [.ref b9, .int 0, .int 0, .int 0])), (b9, .inl (cb9, 3, .inl fb9))] → va_S A s.heap H locs → lv_has ls 14 [(9, .ref t9), (0, .ref h0)] → W p l e ({ frames := 7, cells := 37, slots := 246, locals := 172 } : Room) s m args below meth c H locs 37 246 Q (F0 m 173 ls [])) (k49 : ∀ (t9 b9 : Nat) (cb9 : ClassId) (fb9 : Nat → Int32) (hb9 : sb_Fit fb9), ∀ (H : Heap) (locs : List Loc) (ls : Array Slot), (ns_len E9 x5) = 4 → va_K (dC, dI) vwCl [(cyq1, .int), (cb9, .byte)] s → va_P (dC, dI) vwCl [(h0, .inr (23, [.int 0, v1, v2, v3, .ref (g 34), v4, v5, v6, v7])), (q1, .inl (cyq1, 6, .inl (upd (upd (upd (upd (upd (upd (fun _ => 0) 0 x0) 1 x1) 2 x2) 3 x3) 4 x4) 5 x5))), (t9, .inr (0, [.ref b9, .int 0, .int 0, .int 0])), (b9, .inl (cb9, 4, .inl fb9))] H → va_D A [(h0, .inr (23, [.int 0, v1, v2, v3, .ref (g 34), v4, v5, v6, v7])), (q1, .inl (cyq1, 6, .inl (upd (upd (upd (upd (upd (upd (fun _ => 0) 0 x0) 1 x1) 2 x2) 3 x3) 4 x4) 5 x5))), (t9, .inr (0, [.ref b9, .int 0, .int 0, .int 0])), (b9, .inl (cb9, 4, .inl fb9))] → va_S A s.heap H locs → lv_has ls 14 [(9, .ref t9), (0, .ref h0)] → W p l e ({ frames := 7, cells := 37, slots := 246, locals := 172 } : Room) s m args below meth c H locs 37 246 Q (F0 m 173 ls [])) (k59 : ∀ (t9 b9 : Nat) (cb9 : ClassId) (fb9 : Nat → Int32) (hb9 : sb_Fit fb9), ∀ (H : Heap) (locs : List Loc) (ls : Array Slot), (ns_len E9 x5) = 5 → va_K (dC, dI) vwCl [(cyq1, .int), (cb9, .byte)] s → va_P (dC, dI) vwCl [(h0, .inr (23, [.int 0, v1, v2, v3, .ref (g 34), v4, v5, v6, v7])), (q1, .inl (cyq1, 6, .inl (upd (upd (upd (upd (upd (upd (fun _ => 0) 0 x0) 1 x1) 2 x2) 3 x3) 4 x4) 5 x5))), (t9, .inr (0, [.ref b9, .int 0, .int 0, .int 0])), (b9, .inl (cb9, 5, .inl fb9))] H → va_D A [(h0, .inr (23, [.int 0, v1, v2, v3, .ref (g 34), v4, v5, v6, v7])), (q1, .inl (cyq1, 6, .inl (upd (upd (upd (upd (upd (upd (fun _ => 0) 0 x0) 1 x1) 2 x2) 3 x3) 4 x4) 5 x5))), (t9, .inr (0, [.ref b9, .int 0, .int 0, .int 0])), (b9, .inl (cb9, 5, .inl fb9))] → va_S A s.heap H locs → lv_has ls 14 [(9, .ref t9), (0, .ref h0)] → W p l e ({ frames := 7, cells := 37, slots := 246, locals := 172 } : Room) s m args below meth c H locs 37 246 Q (F0 m 173 ls [])) (k69 : ∀ (t9 b9 : Nat) (cb9 : ClassId) (fb9 : Nat → Int32) (hb9 : sb_Fit fb9), ∀ (H : Heap) (locs : List Loc) (ls : Array Slot), (ns_len E9 x5) = 6 → va_K (dC, dI) vwCl [(cyq1, .int), (cb9, .byte)] s → va_P (dC, dI) vwCl [(h0, .inr (23, [.int 0, v1, v2, v3, .ref (g 34), v4, v5, v6, v7])), (q1, .inl (cyq1, 6, .inl (upd (upd (upd (upd (upd (upd (fun _ => 0) 0 x0) 1 x1) 2 x2) 3 x3) 4 x4) 5 x5))), (t9, .inr (0, [.ref b9, .int 0, .int 0, .int 0])), (b9, .inl (cb9, 6, .inl fb9))] H → va_D A [(h0, .inr (23, [.int 0, v1, v2, v3, .ref (g 34), v4, v5, v6, v7])), (q1, .inl (cyq1, 6, .inl (upd (upd (upd (upd (upd (upd (fun _ => 0) 0 x0) 1 x1) 2 x2) 3 x3) 4 x4) 5 x5))), (t9, .inr (0, [.ref b9, .int 0, .int 0, .int 0])), (b9, .inl (cb9, 6, .inl fb9))] → va_S A s.heap H locs → lv_has ls 14 [(9, .ref t9), (0, .ref h0)] → W p l e ({ frames := 7, cells := 37, slots := 246, locals := 172 } : Room) s m args below meth c H locs 37 246 Q (F0 m 173 ls [])) : W p l e ({ frames := 7, cells := 37, slots := 246, locals := 172 } : Room) s m args below meth c H locs 31 206 Q (F0 m 119 ls []) := by
  have hta : ∀ w ∈ wsALL, w.before args s = true := fun w h => hts w (List.mem_cons_of_mem _ h)
  refine lv_iload hx hb dX16_say_119 (lv_at hl 0 rfl) ?_
  refine lv_iload hx hb dX16_say_121 (lv_at hl 1 rfl) ?_
  refine lv_icmp_ge (tgt := 173) hx hb dX16_say_123 (by decide) (fun c1001 => absurd c1001 (by decide)) (fun c1001 => ?_)
  refine lv_aload hx hb dX16_say_126 (lv_at hl 2 rfl) ?_
  refine lv_iload hx hb dX16_say_128 (lv_at hl 0 rfl) ?_
  refine va_iald hx hb hK hP 1 0 rfl rfl (vp_in_nI (n := 5) (by decide) (by decide)) dX16_say_130 ?_
  refine lv_topi (fun y1002 ey1002 => ?_)
  obtain rfl : x5 = y1002 := ey1002.symm
  refine lv_istore (lv' := [(13, .int x5), (12, .int 5), (11, .int 6), (10, .ref q1), (9, .ref t9), (0, .ref h0)]) hx hb dX16_say_131 hl (by decide) rfl (fun ls hl => ?_)
  rcases (show ((-1 : Int) ≤ x5.toInt ∧ x5.toInt ≤ (-1 : Int)) ∨ ((0 : Int) ≤ x5.toInt ∧ x5.toInt ≤ (19 : Int)) ∨ ((20 : Int) ≤ x5.toInt ∧ x5.toInt ≤ (20 : Int)) ∨ ((21 : Int) ≤ x5.toInt ∧ x5.toInt ≤ (21 : Int)) by omega) with r13 | r13 | r13 | r13
  · have _h9 := 0
    refine lv_aload hx hb dX16_say_133 (lv_at hl 4 rfl) ?_
    refine lv_iload hx hb dX16_say_135 (lv_at hl 0 rfl) ?_
    have hPc := hP.sub (ws' := []) [] rfl
    have hDc := hD.sub (ws' := []) [] (by decide) rfl
    have hKc := hK.sub (tys' := []) [] rfl
    have hFc := va_free (wc := []) hD hS hA [] rfl
    refine va_callr (va_runS (As := [.ref t9, .int x5]) (rest := []) ⟨hx, hb, hml, hown, hts⟩ (kX16_said_5 l dC dI g H.size t9 x5 ⟨by omega, by omega⟩) (va_cwS 2 hts (ns_gp (List.forall_mem_cons.mpr ⟨wm655, (List.forall_mem_cons.mpr ⟨wm656, (List.forall_mem_cons.mpr ⟨wm192, (fun _ h9 => nomatch h9)⟩)⟩)⟩) wm604) rfl rfl rfl (by decide +kernel) ⟨Nat.le_of_ble_eq_true rfl, Nat.le_of_ble_eq_true rfl⟩) ⟨fun a U gg mk q => by obtain ⟨q0, q1, qP, qK, qD, qF⟩ := q; exact ⟨q0, q1, qP, va_K.moved (u := U) (U := U.calling gg mk a) (Vm.Alike.refl U.vm) qK, qD, ns_same qF⟩, fun U hU hW => ⟨rfl, by rw [hU], by rw [hU]; exact hPc, va_K.moved hW.alike hKc, hDc.weaken (fun _ _ _ _ => trivial), ns_call hF hS hFc hU hW⟩⟩ rfl rfl hl.1 rfl (lv_room (Nat.le_of_ble_eq_true rfl)) dX16_say_137 ⟨Nat.le_of_ble_eq_true rfl, Nat.le_of_ble_eq_true rfl⟩) hS (fun q _ h => hFc q h) hFc (fun u r9 t H1 locs ht hvm hw hB hz1 hk1 hS => ?_)
    obtain ⟨hr9, hP1, hK1, hD1⟩ := hB
    obtain rfl := hr9.symm
    rw [ht] at hP1
    have hK1 := va_K.moved hvm.symm hK1
    obtain ⟨hP, hD⟩ := va_join (wr := [(h0, .inr (23, [.int 0, v1, v2, v3, .ref (g 34), v4, v5, v6, v7])), (q1, .inl (cyq1, 6, .inl (upd (upd (upd (upd (upd (upd (fun _ => 0) 0 x0) 1 x1) 2 x2) 3 x3) 4 x4) 5 x5))), (t9, .inr (0, [.ref b9, .int 0, .int 0, .int 0])), (b9, .inl (cb9, 1, .inl fb9))]) (w1 := []) hP hD [] [0, 1, 2, 3] rfl rfl (by decide) (by decide) hk1 hFc hP1 hD1
    have hK := (hK.sub (tys' := [(cyq1, .int), (cb9, .byte)]) [0, 1] rfl).app hK1
    generalize H1 = H at hP hS ⊢
    have hP : va_P (dC, dI) vwCl [(h0, .inr (23, [.int 0, v1, v2, v3, .ref (g 34), v4, v5, v6, v7])), (q1, .inl (cyq1, 6, .inl (upd (upd (upd (upd (upd (upd (fun _ => 0) 0 x0) 1 x1) 2 x2) 3 x3) 4 x4) 5 x5))), (t9, .inr (0, [.ref b9, .int 0, .int 0, .int 0])), (b9, .inl (cb9, 1, .inl fb9))] H := hP
    have hD : va_D A [(h0, .inr (23, [.int 0, v1, v2, v3, .ref (g 34), v4, v5, v6, v7])), (q1, .inl (cyq1, 6, .inl (upd (upd (upd (upd (upd (upd (fun _ => 0) 0 x0) 1 x1) 2 x2) 3 x3) 4 x4) 5 x5))), (t9, .inr (0, [.ref b9, .int 0, .int 0, .int 0])), (b9, .inl (cb9, 1, .inl fb9))] := hD
    have hK : va_K (dC, dI) vwCl [(cyq1, .int), (cb9, .byte)] s := hK
    refine W.widen (k := 31) (n := 206) (Nat.le_of_ble_eq_true rfl) (Nat.le_of_ble_eq_true rfl) ?_
    refine lv_astore (lv' := [(9, .ref t9), (13, .int x5), (12, .int 5), (11, .int 6), (10, .ref q1), (0, .ref h0)]) hx hb dX16_say_140 hl (by decide) rfl (fun ls hl => ?_)
    refine lv_aload_n hx hb dX16_say_142 rfl (lv_at hl 5 rfl) ?_
    refine lv_aload hx hb dX16_say_143 (lv_at hl 0 rfl) ?_
    have hPc := hP.sub (ws' := [(t9, .inr (0, [.ref b9, .int 0, .int 0, .int 0])), (b9, .inl (cb9, 1, .inl fb9))]) [2, 3] rfl
    have hDc := hD.sub (ws' := [(t9, .inr (0, [.ref b9, .int 0, .int 0, .int 0])), (b9, .inl (cb9, 1, .inl fb9))]) [2, 3] (by decide) rfl
    have hKc := hK.sub (tys' := [(cb9, .byte)]) [1] rfl
    have hFc := va_free (wc := [(t9, .inr (0, [.ref b9, .int 0, .int 0, .int 0])), (b9, .inl (cb9, 1, .inl fb9))]) hD hS hA [2, 3] rfl
    refine va_calli (va_runV (As := []) (rest := [.ref h0]) ⟨hx, hb, hml, hown, hts⟩ (kJ0_length_8abf5_3 l dC dI g H.size t9 b9 (.int 0) (.int 0) cb9 fb9 hb9 ) (cwV 0 hts (ns_gp (List.forall_mem_cons.mpr ⟨wm646, (List.forall_mem_cons.mpr ⟨wm595, (List.forall_mem_cons.mpr ⟨wm596, (List.forall_mem_cons.mpr ⟨wm316, (fun _ h9 => nomatch h9)⟩)⟩)⟩)⟩) wm574) rfl rfl rfl (by decide +kernel) ⟨Nat.le_of_ble_eq_true rfl, Nat.le_of_ble_eq_true rfl⟩) ⟨fun a U gg mk q => by obtain ⟨q0, q1, qP, qK, qD, qF⟩ := q; exact ⟨q0, q1, qP, va_K.moved (u := U) (U := U.calling gg mk a) (Vm.Alike.refl U.vm) qK, qD, ns_same qF⟩, va_recv hK hP (ci := 0) (q0 := 2) rfl rfl, fun U hU hW => ⟨rfl, by rw [hU], by rw [hU]; exact hPc, va_K.moved hW.alike hKc, hDc.weaken (fun _ _ _ _ => trivial), ns_call hF hS hFc hU hW⟩⟩ rfl rfl hl.1 rfl (lv_room (Nat.le_of_ble_eq_true rfl)) dX16_say_145 ⟨Nat.le_of_ble_eq_true rfl, Nat.le_of_ble_eq_true rfl⟩) hS (fun q _ h => hFc q h) hFc (fun r9 u t H1 locs ht hvm hw hB hz1 hk1 hS => ?_)
    obtain rfl := hw.symm
    obtain ⟨hP1, hK1, hD1⟩ := hB
    rw [ht] at hP1
    have hK1 := va_K.moved hvm.symm hK1
    obtain ⟨hP, hD⟩ := va_join (wr := [(h0, .inr (23, [.int 0, v1, v2, v3, .ref (g 34), v4, v5, v6, v7])), (q1, .inl (cyq1, 6, .inl (upd (upd (upd (upd (upd (upd (fun _ => 0) 0 x0) 1 x1) 2 x2) 3 x3) 4 x4) 5 x5)))]) (w1 := [(b9, .inl (cb9, 1, .inl fb9)), (t9, .inr (0, [.ref b9, .int 0, .int 0, .int 0]))]) hP hD [2, 3] [0, 1] rfl rfl (by decide) (by decide) hk1 hFc hP1 hD1
    have hK := (hK.sub (tys' := [(cyq1, .int)]) [0] rfl).app hK1
    generalize H1 = H at hP hS ⊢
    have hP : va_P (dC, dI) vwCl [(h0, .inr (23, [.int 0, v1, v2, v3, .ref (g 34), v4, v5, v6, v7])), (q1, .inl (cyq1, 6, .inl (upd (upd (upd (upd (upd (upd (fun _ => 0) 0 x0) 1 x1) 2 x2) 3 x3) 4 x4) 5 x5))), (b9, .inl (cb9, 1, .inl fb9)), (t9, .inr (0, [.ref b9, .int 0, .int 0, .int 0]))] H := hP
    have hD : va_D A [(h0, .inr (23, [.int 0, v1, v2, v3, .ref (g 34), v4, v5, v6, v7])), (q1, .inl (cyq1, 6, .inl (upd (upd (upd (upd (upd (upd (fun _ => 0) 0 x0) 1 x1) 2 x2) 3 x3) 4 x4) 5 x5))), (b9, .inl (cb9, 1, .inl fb9)), (t9, .inr (0, [.ref b9, .int 0, .int 0, .int 0]))] := hD
    have hK : va_K (dC, dI) vwCl [(cyq1, .int), (cb9, .byte)] s := hK
    refine W.widen (k := 31) (n := 206) (Nat.le_of_ble_eq_true rfl) (Nat.le_of_ble_eq_true rfl) ?_
    refine lv_bipush (v := 60) hx hb dX16_say_148 (by decide) ?_
    refine lv_icmp_le (tgt := 157) hx hb dX16_say_150 (by decide) (fun c1003 => ?_) (fun c1003 => absurd (by decide) c1003)
    refine lv_iconst (v := 0) hx hb dX16_say_157 (by decide) ?_
    refine lv_iconst (v := 2) hx hb dX16_say_158 (by decide) ?_
    have hPc := hP.sub (ws' := [(h0, .inr (23, [.int 0, v1, v2, v3, .ref (g 34), v4, v5, v6, v7]))]) [0] rfl
    have hDc := hD.sub (ws' := [(h0, .inr (23, [.int 0, v1, v2, v3, .ref (g 34), v4, v5, v6, v7]))]) [0] (by decide) rfl
    have hKc := hK.sub (tys' := []) [] rfl
    have hFc := va_free (wc := [(h0, .inr (23, [.int 0, v1, v2, v3, .ref (g 34), v4, v5, v6, v7]))]) hD hS hA [0] rfl
    refine va_calli (va_runV (As := [.int 0, .int 2]) (rest := []) ⟨hx, hb, hml, hown, hts⟩ (kX16_refuse_3 l dC dI g H.size h0 v1 v2 v3 (.ref (g 34)) v4 v5 v6 v7 ) (cwV 2 hts (ns_gp (List.forall_mem_cons.mpr ⟨wm236, (List.forall_mem_cons.mpr ⟨wm237, (List.forall_mem_cons.mpr ⟨wm238, (List.forall_mem_cons.mpr ⟨wm192, (fun _ h9 => nomatch h9)⟩)⟩)⟩)⟩) wm235) rfl rfl rfl (by decide +kernel) ⟨Nat.le_of_ble_eq_true rfl, Nat.le_of_ble_eq_true rfl⟩) ⟨fun a U gg mk q => by obtain ⟨q0, q1, qP, qK, qD, qF⟩ := q; exact ⟨q0, q1, qP, va_K.moved (u := U) (U := U.calling gg mk a) (Vm.Alike.refl U.vm) qK, qD, ns_same qF⟩, va_recv hK hP (ci := 23) (q0 := 0) rfl rfl, fun U hU hW => ⟨rfl, by rw [hU], by rw [hU]; exact hPc, va_K.moved hW.alike hKc, hDc.weaken (fun _ _ _ _ => trivial), ns_call hF hS hFc hU hW⟩⟩ rfl rfl hl.1 rfl (lv_room (Nat.le_of_ble_eq_true rfl)) dX16_say_159 ⟨Nat.le_of_ble_eq_true rfl, Nat.le_of_ble_eq_true rfl⟩) hS (fun q _ h => hFc q h) hFc (fun r9 u t H1 locs ht hvm hw hB hz1 hk1 hS => ?_)
    obtain rfl := hw.symm
    obtain ⟨hP1, hK1, hD1⟩ := hB
    rw [ht] at hP1
    have hK1 := va_K.moved hvm.symm hK1
    obtain ⟨hP, hD⟩ := va_join (wr := [(q1, .inl (cyq1, 6, .inl (upd (upd (upd (upd (upd (upd (fun _ => 0) 0 x0) 1 x1) 2 x2) 3 x3) 4 x4) 5 x5))), (b9, .inl (cb9, 1, .inl fb9)), (t9, .inr (0, [.ref b9, .int 0, .int 0, .int 0]))]) (w1 := [(h0, .inr (23, [.int 0, v1, v2, v3, .ref (g 34), v4, v5, v6, v7]))]) hP hD [0] [1, 2, 3] rfl rfl (by decide) (by decide) hk1 hFc hP1 hD1
    have hK := (hK.sub (tys' := [(cyq1, .int), (cb9, .byte)]) [0, 1] rfl).app hK1
    generalize H1 = H at hP hS ⊢
    have hP : va_P (dC, dI) vwCl [(q1, .inl (cyq1, 6, .inl (upd (upd (upd (upd (upd (upd (fun _ => 0) 0 x0) 1 x1) 2 x2) 3 x3) 4 x4) 5 x5))), (b9, .inl (cb9, 1, .inl fb9)), (t9, .inr (0, [.ref b9, .int 0, .int 0, .int 0])), (h0, .inr (23, [.int 0, v1, v2, v3, .ref (g 34), v4, v5, v6, v7]))] H := hP
    have hD : va_D A [(q1, .inl (cyq1, 6, .inl (upd (upd (upd (upd (upd (upd (fun _ => 0) 0 x0) 1 x1) 2 x2) 3 x3) 4 x4) 5 x5))), (b9, .inl (cb9, 1, .inl fb9)), (t9, .inr (0, [.ref b9, .int 0, .int 0, .int 0])), (h0, .inr (23, [.int 0, v1, v2, v3, .ref (g 34), v4, v5, v6, v7]))] := hD
    have hK : va_K (dC, dI) vwCl [(cyq1, .int), (cb9, .byte)] s := hK
    refine W.widen (k := 31) (n := 206) (Nat.le_of_ble_eq_true rfl) (Nat.le_of_ble_eq_true rfl) ?_
    refine lv_if_eq (tgt := 167) hx hb dX16_say_162 (by decide) (fun c1004 => ?_) (fun c1004 => absurd (by decide) c1004)
    refine lv_iinc (v := 6) (lv' := [(12, .int 6), (9, .ref t9), (13, .int x5), (11, .int 6), (10, .ref q1), (0, .ref h0)]) hx hb dX16_say_167 hl (k := 2) rfl (by decide) (by decide) rfl (fun ls hl => ?_)
    refine lv_goto (tgt := 119) hx hb dX16_say_170 (by decide) ?_
    have hP := hP.sub (ws' := [(h0, .inr (23, [.int 0, v1, v2, v3, .ref (g 34), v4, v5, v6, v7])), (q1, .inl (cyq1, 6, .inl (upd (upd (upd (upd (upd (upd (fun _ => 0) 0 x0) 1 x1) 2 x2) 3 x3) 4 x4) 5 x5))), (t9, .inr (0, [.ref b9, .int 0, .int 0, .int 0])), (b9, .inl (cb9, 1, .inl fb9))]) [3, 0, 2, 1] rfl
    have hD := hD.sub (ws' := [(h0, .inr (23, [.int 0, v1, v2, v3, .ref (g 34), v4, v5, v6, v7])), (q1, .inl (cyq1, 6, .inl (upd (upd (upd (upd (upd (upd (fun _ => 0) 0 x0) 1 x1) 2 x2) 3 x3) 4 x4) 5 x5))), (t9, .inr (0, [.ref b9, .int 0, .int 0, .int 0])), (b9, .inl (cb9, 1, .inl fb9))]) [3, 0, 2, 1] (by decide) rfl
    have hK := hK.sub (tys' := [(cyq1, .int), (cb9, .byte)]) [0, 1] rfl
    have hl := lv_sub hl (l' := [(12, .int 6), (11, .int 6), (10, .ref q1), (9, .ref t9), (0, .ref h0)]) [0, 3, 4, 1, 5] rfl
    refine W.widen (k := 37) (n := 246) (Nat.le_of_ble_eq_true rfl) (Nat.le_of_ble_eq_true rfl) ?_
    have hE2 : ns_len E9 x5 = 1 := by rw [hE]; exact ns_lenA x5 1 (by omega)
    exact ns_say_6_1 hb9 hE2 ex0 ex1 ex2 ex3 ex4 ex5 hx hb hml hown hts hA hF hK hP hD hS hl k09 k19 k29 k39 k49 k59 k69
  · have _h9 := 0
    refine lv_aload hx hb dX16_say_133 (lv_at hl 4 rfl) ?_
    refine lv_iload hx hb dX16_say_135 (lv_at hl 0 rfl) ?_
    have hPc := hP.sub (ws' := [(t9, .inr (0, [.ref b9, .int 0, .int 0, .int 0])), (b9, .inl (cb9, 1, .inl fb9))]) [2, 3] rfl
    have hDc := hD.sub (ws' := [(t9, .inr (0, [.ref b9, .int 0, .int 0, .int 0])), (b9, .inl (cb9, 1, .inl fb9))]) [2, 3] (by decide) rfl
    have hKc := hK.sub (tys' := [(cb9, .byte)]) [1] rfl
    have hFc := va_free (wc := [(t9, .inr (0, [.ref b9, .int 0, .int 0, .int 0])), (b9, .inl (cb9, 1, .inl fb9))]) hD hS hA [2, 3] rfl
    refine va_callr (va_runS (As := [.ref t9, .int x5]) (rest := []) ⟨hx, hb, hml, hown, hts⟩ (kX16_said_6 l dC dI g H.size t9 x5 b9 (.int 0) (.int 0) cb9 fb9 hb9 ⟨by omega, by omega⟩) (va_cwS 2 hts (ns_gp (List.forall_mem_cons.mpr ⟨wm655, (List.forall_mem_cons.mpr ⟨wm656, (List.forall_mem_cons.mpr ⟨wm192, (fun _ h9 => nomatch h9)⟩)⟩)⟩) wm604) rfl rfl rfl (by decide +kernel) ⟨Nat.le_of_ble_eq_true rfl, Nat.le_of_ble_eq_true rfl⟩) ⟨fun a U gg mk q => by obtain ⟨q0, q1, qP, qK, qD, qF⟩ := q; exact ⟨q0, q1, qP, va_K.moved (u := U) (U := U.calling gg mk a) (Vm.Alike.refl U.vm) qK, qD, ns_same qF⟩, fun U hU hW => ⟨rfl, by rw [hU], by rw [hU]; exact hPc, va_K.moved hW.alike hKc, hDc.weaken (fun _ _ _ _ => trivial), ns_call hF hS hFc hU hW⟩⟩ rfl rfl hl.1 rfl (lv_room (Nat.le_of_ble_eq_true rfl)) dX16_say_137 ⟨Nat.le_of_ble_eq_true rfl, Nat.le_of_ble_eq_true rfl⟩) hS (fun q _ h => hFc q h) hFc (fun u r9 t H1 locs ht hvm hw hB hz1 hk1 hS => ?_)
    obtain ⟨q1005, q1006, cy1007, q1008, q1009, cy1010, hr9, hP1, hK1, hD1⟩ := hB
    obtain rfl := hr9.symm
    rw [ht] at hP1
    have hK1 := va_K.moved hvm.symm hK1
    obtain ⟨hP, hD⟩ := va_join (wr := [(h0, .inr (23, [.int 0, v1, v2, v3, .ref (g 34), v4, v5, v6, v7])), (q1, .inl (cyq1, 6, .inl (upd (upd (upd (upd (upd (upd (fun _ => 0) 0 x0) 1 x1) 2 x2) 3 x3) 4 x4) 5 x5)))]) (w1 := [(b9, .inl (cb9, 1, .inl fb9)), (t9, .inr (0, [.ref b9, .int 0, .int 0, .int 0])), (q1008, .inr (0, [.ref q1009, .int 0, .int 0, .int 0])), (q1005, .inr (1, [.ref q1006, .int 0, .int 0, .int 2])), (q1006, .inl (cy1007, 16, .inl (upd ((va_cpy (fb9) ((fun _ => 0)) 0 0 1)) 1 (vp_nar .byte (ns_ch x5).toInt8.toInt32)))), (q1009, .inl (cy1010, 2, .inl (va_cpy ((upd ((va_cpy (fb9) ((fun _ => 0)) 0 0 1)) 1 (vp_nar .byte (ns_ch x5).toInt8.toInt32))) (fun _ => 0) 0 0 2)))]) hP hD [2, 3] [0, 1] rfl rfl (by decide) (by decide) hk1 hFc hP1 hD1
    have hK := (hK.sub (tys' := [(cyq1, .int)]) [0] rfl).app hK1
    generalize H1 = H at hP hS ⊢
    have hP : va_P (dC, dI) vwCl [(h0, .inr (23, [.int 0, v1, v2, v3, .ref (g 34), v4, v5, v6, v7])), (q1, .inl (cyq1, 6, .inl (upd (upd (upd (upd (upd (upd (fun _ => 0) 0 x0) 1 x1) 2 x2) 3 x3) 4 x4) 5 x5))), (b9, .inl (cb9, 1, .inl fb9)), (t9, .inr (0, [.ref b9, .int 0, .int 0, .int 0])), (q1008, .inr (0, [.ref q1009, .int 0, .int 0, .int 0])), (q1005, .inr (1, [.ref q1006, .int 0, .int 0, .int 2])), (q1006, .inl (cy1007, 16, .inl (upd ((va_cpy (fb9) ((fun _ => 0)) 0 0 1)) 1 (vp_nar .byte (ns_ch x5).toInt8.toInt32)))), (q1009, .inl (cy1010, 2, .inl (va_cpy ((upd ((va_cpy (fb9) ((fun _ => 0)) 0 0 1)) 1 (vp_nar .byte (ns_ch x5).toInt8.toInt32))) (fun _ => 0) 0 0 2)))] H := hP
    have hD : va_D A [(h0, .inr (23, [.int 0, v1, v2, v3, .ref (g 34), v4, v5, v6, v7])), (q1, .inl (cyq1, 6, .inl (upd (upd (upd (upd (upd (upd (fun _ => 0) 0 x0) 1 x1) 2 x2) 3 x3) 4 x4) 5 x5))), (b9, .inl (cb9, 1, .inl fb9)), (t9, .inr (0, [.ref b9, .int 0, .int 0, .int 0])), (q1008, .inr (0, [.ref q1009, .int 0, .int 0, .int 0])), (q1005, .inr (1, [.ref q1006, .int 0, .int 0, .int 2])), (q1006, .inl (cy1007, 16, .inl (upd ((va_cpy (fb9) ((fun _ => 0)) 0 0 1)) 1 (vp_nar .byte (ns_ch x5).toInt8.toInt32)))), (q1009, .inl (cy1010, 2, .inl (va_cpy ((upd ((va_cpy (fb9) ((fun _ => 0)) 0 0 1)) 1 (vp_nar .byte (ns_ch x5).toInt8.toInt32))) (fun _ => 0) 0 0 2)))] := hD
    have hK : va_K (dC, dI) vwCl [(cyq1, .int), (cb9, .byte), (cy1007, .byte), (cy1010, .byte)] s := hK
    refine W.widen (k := 35) (n := 232) (Nat.le_of_ble_eq_true rfl) (Nat.le_of_ble_eq_true rfl) ?_
    refine lv_astore (lv' := [(9, .ref q1008), (13, .int x5), (12, .int 5), (11, .int 6), (10, .ref q1), (0, .ref h0)]) hx hb dX16_say_140 hl (by decide) rfl (fun ls hl => ?_)
    refine lv_aload_n hx hb dX16_say_142 rfl (lv_at hl 5 rfl) ?_
    refine lv_aload hx hb dX16_say_143 (lv_at hl 0 rfl) ?_
    have hPc := hP.sub (ws' := [(q1008, .inr (0, [.ref q1009, .int 0, .int 0, .int 0])), (q1009, .inl (cy1010, 2, .inl (va_cpy ((upd ((va_cpy (fb9) ((fun _ => 0)) 0 0 1)) 1 (vp_nar .byte (ns_ch x5).toInt8.toInt32))) (fun _ => 0) 0 0 2)))]) [4, 7] rfl
    have hDc := hD.sub (ws' := [(q1008, .inr (0, [.ref q1009, .int 0, .int 0, .int 0])), (q1009, .inl (cy1010, 2, .inl (va_cpy ((upd ((va_cpy (fb9) ((fun _ => 0)) 0 0 1)) 1 (vp_nar .byte (ns_ch x5).toInt8.toInt32))) (fun _ => 0) 0 0 2)))]) [4, 7] (by decide) rfl
    have hKc := hK.sub (tys' := [(cy1010, .byte)]) [3] rfl
    have hFc := va_free (wc := [(q1008, .inr (0, [.ref q1009, .int 0, .int 0, .int 0])), (q1009, .inl (cy1010, 2, .inl (va_cpy ((upd ((va_cpy (fb9) ((fun _ => 0)) 0 0 1)) 1 (vp_nar .byte (ns_ch x5).toInt8.toInt32))) (fun _ => 0) 0 0 2)))]) hD hS hA [4, 7] rfl
    refine va_calli (va_runV (As := []) (rest := [.ref h0]) ⟨hx, hb, hml, hown, hts⟩ (kJ0_length_8abf5_4 l dC dI g H.size q1008 q1009 (.int 0) (.int 0) cy1010 (va_cpy ((upd ((va_cpy (fb9) ((fun _ => 0)) 0 0 1)) 1 (vp_nar .byte (ns_ch x5).toInt8.toInt32))) (fun _ => 0) 0 0 2) (sb_fitC (sb_fitU (sb_fitC hb9 sb_fit0) (pk_fb _)) sb_fit0) ) (cwV 0 hts (ns_gp (List.forall_mem_cons.mpr ⟨wm646, (List.forall_mem_cons.mpr ⟨wm595, (List.forall_mem_cons.mpr ⟨wm596, (List.forall_mem_cons.mpr ⟨wm316, (fun _ h9 => nomatch h9)⟩)⟩)⟩)⟩) wm574) rfl rfl rfl (by decide +kernel) ⟨Nat.le_of_ble_eq_true rfl, Nat.le_of_ble_eq_true rfl⟩) ⟨fun a U gg mk q => by obtain ⟨q0, q1, qP, qK, qD, qF⟩ := q; exact ⟨q0, q1, qP, va_K.moved (u := U) (U := U.calling gg mk a) (Vm.Alike.refl U.vm) qK, qD, ns_same qF⟩, va_recv hK hP (ci := 0) (q0 := 4) rfl rfl, fun U hU hW => ⟨rfl, by rw [hU], by rw [hU]; exact hPc, va_K.moved hW.alike hKc, hDc.weaken (fun _ _ _ _ => trivial), ns_call hF hS hFc hU hW⟩⟩ rfl rfl hl.1 rfl (lv_room (Nat.le_of_ble_eq_true rfl)) dX16_say_145 ⟨Nat.le_of_ble_eq_true rfl, Nat.le_of_ble_eq_true rfl⟩) hS (fun q _ h => hFc q h) hFc (fun r9 u t H1 locs ht hvm hw hB hz1 hk1 hS => ?_)
    obtain rfl := hw.symm
    obtain ⟨hP1, hK1, hD1⟩ := hB
    rw [ht] at hP1
    have hK1 := va_K.moved hvm.symm hK1
    obtain ⟨hP, hD⟩ := va_join (wr := [(h0, .inr (23, [.int 0, v1, v2, v3, .ref (g 34), v4, v5, v6, v7])), (q1, .inl (cyq1, 6, .inl (upd (upd (upd (upd (upd (upd (fun _ => 0) 0 x0) 1 x1) 2 x2) 3 x3) 4 x4) 5 x5))), (b9, .inl (cb9, 1, .inl fb9)), (t9, .inr (0, [.ref b9, .int 0, .int 0, .int 0])), (q1005, .inr (1, [.ref q1006, .int 0, .int 0, .int 2])), (q1006, .inl (cy1007, 16, .inl (upd ((va_cpy (fb9) ((fun _ => 0)) 0 0 1)) 1 (vp_nar .byte (ns_ch x5).toInt8.toInt32))))]) (w1 := [(q1009, .inl (cy1010, 2, .inl (va_cpy ((upd ((va_cpy (fb9) ((fun _ => 0)) 0 0 1)) 1 (vp_nar .byte (ns_ch x5).toInt8.toInt32))) (fun _ => 0) 0 0 2))), (q1008, .inr (0, [.ref q1009, .int 0, .int 0, .int 0]))]) hP hD [4, 7] [0, 1, 2, 3, 5, 6] rfl rfl (by decide) (by decide) hk1 hFc hP1 hD1
    have hK := (hK.sub (tys' := [(cyq1, .int), (cb9, .byte), (cy1007, .byte)]) [0, 1, 2] rfl).app hK1
    generalize H1 = H at hP hS ⊢
    have hP : va_P (dC, dI) vwCl [(h0, .inr (23, [.int 0, v1, v2, v3, .ref (g 34), v4, v5, v6, v7])), (q1, .inl (cyq1, 6, .inl (upd (upd (upd (upd (upd (upd (fun _ => 0) 0 x0) 1 x1) 2 x2) 3 x3) 4 x4) 5 x5))), (b9, .inl (cb9, 1, .inl fb9)), (t9, .inr (0, [.ref b9, .int 0, .int 0, .int 0])), (q1005, .inr (1, [.ref q1006, .int 0, .int 0, .int 2])), (q1006, .inl (cy1007, 16, .inl (upd ((va_cpy (fb9) ((fun _ => 0)) 0 0 1)) 1 (vp_nar .byte (ns_ch x5).toInt8.toInt32)))), (q1009, .inl (cy1010, 2, .inl (va_cpy ((upd ((va_cpy (fb9) ((fun _ => 0)) 0 0 1)) 1 (vp_nar .byte (ns_ch x5).toInt8.toInt32))) (fun _ => 0) 0 0 2))), (q1008, .inr (0, [.ref q1009, .int 0, .int 0, .int 0]))] H := hP
    have hD : va_D A [(h0, .inr (23, [.int 0, v1, v2, v3, .ref (g 34), v4, v5, v6, v7])), (q1, .inl (cyq1, 6, .inl (upd (upd (upd (upd (upd (upd (fun _ => 0) 0 x0) 1 x1) 2 x2) 3 x3) 4 x4) 5 x5))), (b9, .inl (cb9, 1, .inl fb9)), (t9, .inr (0, [.ref b9, .int 0, .int 0, .int 0])), (q1005, .inr (1, [.ref q1006, .int 0, .int 0, .int 2])), (q1006, .inl (cy1007, 16, .inl (upd ((va_cpy (fb9) ((fun _ => 0)) 0 0 1)) 1 (vp_nar .byte (ns_ch x5).toInt8.toInt32)))), (q1009, .inl (cy1010, 2, .inl (va_cpy ((upd ((va_cpy (fb9) ((fun _ => 0)) 0 0 1)) 1 (vp_nar .byte (ns_ch x5).toInt8.toInt32))) (fun _ => 0) 0 0 2))), (q1008, .inr (0, [.ref q1009, .int 0, .int 0, .int 0]))] := hD
    have hK : va_K (dC, dI) vwCl [(cyq1, .int), (cb9, .byte), (cy1007, .byte), (cy1010, .byte)] s := hK
    refine W.widen (k := 35) (n := 232) (Nat.le_of_ble_eq_true rfl) (Nat.le_of_ble_eq_true rfl) ?_
    refine lv_bipush (v := 60) hx hb dX16_say_148 (by decide) ?_
    refine lv_icmp_le (tgt := 157) hx hb dX16_say_150 (by decide) (fun c1011 => ?_) (fun c1011 => absurd (by decide) c1011)
    refine lv_iconst (v := 0) hx hb dX16_say_157 (by decide) ?_
    refine lv_iconst (v := 2) hx hb dX16_say_158 (by decide) ?_
    have hPc := hP.sub (ws' := [(h0, .inr (23, [.int 0, v1, v2, v3, .ref (g 34), v4, v5, v6, v7]))]) [0] rfl
    have hDc := hD.sub (ws' := [(h0, .inr (23, [.int 0, v1, v2, v3, .ref (g 34), v4, v5, v6, v7]))]) [0] (by decide) rfl
    have hKc := hK.sub (tys' := []) [] rfl
    have hFc := va_free (wc := [(h0, .inr (23, [.int 0, v1, v2, v3, .ref (g 34), v4, v5, v6, v7]))]) hD hS hA [0] rfl
    refine va_calli (va_runV (As := [.int 0, .int 2]) (rest := []) ⟨hx, hb, hml, hown, hts⟩ (kX16_refuse_3 l dC dI g H.size h0 v1 v2 v3 (.ref (g 34)) v4 v5 v6 v7 ) (cwV 2 hts (ns_gp (List.forall_mem_cons.mpr ⟨wm236, (List.forall_mem_cons.mpr ⟨wm237, (List.forall_mem_cons.mpr ⟨wm238, (List.forall_mem_cons.mpr ⟨wm192, (fun _ h9 => nomatch h9)⟩)⟩)⟩)⟩) wm235) rfl rfl rfl (by decide +kernel) ⟨Nat.le_of_ble_eq_true rfl, Nat.le_of_ble_eq_true rfl⟩) ⟨fun a U gg mk q => by obtain ⟨q0, q1, qP, qK, qD, qF⟩ := q; exact ⟨q0, q1, qP, va_K.moved (u := U) (U := U.calling gg mk a) (Vm.Alike.refl U.vm) qK, qD, ns_same qF⟩, va_recv hK hP (ci := 23) (q0 := 0) rfl rfl, fun U hU hW => ⟨rfl, by rw [hU], by rw [hU]; exact hPc, va_K.moved hW.alike hKc, hDc.weaken (fun _ _ _ _ => trivial), ns_call hF hS hFc hU hW⟩⟩ rfl rfl hl.1 rfl (lv_room (Nat.le_of_ble_eq_true rfl)) dX16_say_159 ⟨Nat.le_of_ble_eq_true rfl, Nat.le_of_ble_eq_true rfl⟩) hS (fun q _ h => hFc q h) hFc (fun r9 u t H1 locs ht hvm hw hB hz1 hk1 hS => ?_)
    obtain rfl := hw.symm
    obtain ⟨hP1, hK1, hD1⟩ := hB
    rw [ht] at hP1
    have hK1 := va_K.moved hvm.symm hK1
    obtain ⟨hP, hD⟩ := va_join (wr := [(q1, .inl (cyq1, 6, .inl (upd (upd (upd (upd (upd (upd (fun _ => 0) 0 x0) 1 x1) 2 x2) 3 x3) 4 x4) 5 x5))), (b9, .inl (cb9, 1, .inl fb9)), (t9, .inr (0, [.ref b9, .int 0, .int 0, .int 0])), (q1005, .inr (1, [.ref q1006, .int 0, .int 0, .int 2])), (q1006, .inl (cy1007, 16, .inl (upd ((va_cpy (fb9) ((fun _ => 0)) 0 0 1)) 1 (vp_nar .byte (ns_ch x5).toInt8.toInt32)))), (q1009, .inl (cy1010, 2, .inl (va_cpy ((upd ((va_cpy (fb9) ((fun _ => 0)) 0 0 1)) 1 (vp_nar .byte (ns_ch x5).toInt8.toInt32))) (fun _ => 0) 0 0 2))), (q1008, .inr (0, [.ref q1009, .int 0, .int 0, .int 0]))]) (w1 := [(h0, .inr (23, [.int 0, v1, v2, v3, .ref (g 34), v4, v5, v6, v7]))]) hP hD [0] [1, 2, 3, 4, 5, 6, 7] rfl rfl (by decide) (by decide) hk1 hFc hP1 hD1
    have hK := (hK.sub (tys' := [(cyq1, .int), (cb9, .byte), (cy1007, .byte), (cy1010, .byte)]) [0, 1, 2, 3] rfl).app hK1
    generalize H1 = H at hP hS ⊢
    have hP : va_P (dC, dI) vwCl [(q1, .inl (cyq1, 6, .inl (upd (upd (upd (upd (upd (upd (fun _ => 0) 0 x0) 1 x1) 2 x2) 3 x3) 4 x4) 5 x5))), (b9, .inl (cb9, 1, .inl fb9)), (t9, .inr (0, [.ref b9, .int 0, .int 0, .int 0])), (q1005, .inr (1, [.ref q1006, .int 0, .int 0, .int 2])), (q1006, .inl (cy1007, 16, .inl (upd ((va_cpy (fb9) ((fun _ => 0)) 0 0 1)) 1 (vp_nar .byte (ns_ch x5).toInt8.toInt32)))), (q1009, .inl (cy1010, 2, .inl (va_cpy ((upd ((va_cpy (fb9) ((fun _ => 0)) 0 0 1)) 1 (vp_nar .byte (ns_ch x5).toInt8.toInt32))) (fun _ => 0) 0 0 2))), (q1008, .inr (0, [.ref q1009, .int 0, .int 0, .int 0])), (h0, .inr (23, [.int 0, v1, v2, v3, .ref (g 34), v4, v5, v6, v7]))] H := hP
    have hD : va_D A [(q1, .inl (cyq1, 6, .inl (upd (upd (upd (upd (upd (upd (fun _ => 0) 0 x0) 1 x1) 2 x2) 3 x3) 4 x4) 5 x5))), (b9, .inl (cb9, 1, .inl fb9)), (t9, .inr (0, [.ref b9, .int 0, .int 0, .int 0])), (q1005, .inr (1, [.ref q1006, .int 0, .int 0, .int 2])), (q1006, .inl (cy1007, 16, .inl (upd ((va_cpy (fb9) ((fun _ => 0)) 0 0 1)) 1 (vp_nar .byte (ns_ch x5).toInt8.toInt32)))), (q1009, .inl (cy1010, 2, .inl (va_cpy ((upd ((va_cpy (fb9) ((fun _ => 0)) 0 0 1)) 1 (vp_nar .byte (ns_ch x5).toInt8.toInt32))) (fun _ => 0) 0 0 2))), (q1008, .inr (0, [.ref q1009, .int 0, .int 0, .int 0])), (h0, .inr (23, [.int 0, v1, v2, v3, .ref (g 34), v4, v5, v6, v7]))] := hD
    have hK : va_K (dC, dI) vwCl [(cyq1, .int), (cb9, .byte), (cy1007, .byte), (cy1010, .byte)] s := hK
    refine W.widen (k := 35) (n := 232) (Nat.le_of_ble_eq_true rfl) (Nat.le_of_ble_eq_true rfl) ?_
    refine lv_if_eq (tgt := 167) hx hb dX16_say_162 (by decide) (fun c1012 => ?_) (fun c1012 => absurd (by decide) c1012)
    refine lv_iinc (v := 6) (lv' := [(12, .int 6), (9, .ref q1008), (13, .int x5), (11, .int 6), (10, .ref q1), (0, .ref h0)]) hx hb dX16_say_167 hl (k := 2) rfl (by decide) (by decide) rfl (fun ls hl => ?_)
    refine lv_goto (tgt := 119) hx hb dX16_say_170 (by decide) ?_
    have hP := hP.sub (ws' := [(h0, .inr (23, [.int 0, v1, v2, v3, .ref (g 34), v4, v5, v6, v7])), (q1, .inl (cyq1, 6, .inl (upd (upd (upd (upd (upd (upd (fun _ => 0) 0 x0) 1 x1) 2 x2) 3 x3) 4 x4) 5 x5))), (q1008, .inr (0, [.ref q1009, .int 0, .int 0, .int 0])), (q1009, .inl (cy1010, 2, .inl (va_cpy ((upd ((va_cpy (fb9) ((fun _ => 0)) 0 0 1)) 1 (vp_nar .byte (ns_ch x5).toInt8.toInt32))) (fun _ => 0) 0 0 2)))]) [7, 0, 6, 5] rfl
    have hD := hD.sub (ws' := [(h0, .inr (23, [.int 0, v1, v2, v3, .ref (g 34), v4, v5, v6, v7])), (q1, .inl (cyq1, 6, .inl (upd (upd (upd (upd (upd (upd (fun _ => 0) 0 x0) 1 x1) 2 x2) 3 x3) 4 x4) 5 x5))), (q1008, .inr (0, [.ref q1009, .int 0, .int 0, .int 0])), (q1009, .inl (cy1010, 2, .inl (va_cpy ((upd ((va_cpy (fb9) ((fun _ => 0)) 0 0 1)) 1 (vp_nar .byte (ns_ch x5).toInt8.toInt32))) (fun _ => 0) 0 0 2)))]) [7, 0, 6, 5] (by decide) rfl
    have hK := hK.sub (tys' := [(cyq1, .int), (cy1010, .byte)]) [0, 3] rfl
    have hl := lv_sub hl (l' := [(12, .int 6), (11, .int 6), (10, .ref q1), (9, .ref q1008), (0, .ref h0)]) [0, 3, 4, 1, 5] rfl
    refine W.widen (k := 37) (n := 246) (Nat.le_of_ble_eq_true rfl) (Nat.le_of_ble_eq_true rfl) ?_
    have hE2 : ns_len E9 x5 = 2 := by rw [hE]; exact (ns_lenB x5 1 (by omega) (by omega)).trans (by decide)
    exact ns_say_6_2 (sb_fitC (sb_fitU (sb_fitC hb9 sb_fit0) (pk_fb _)) sb_fit0) hE2 ex0 ex1 ex2 ex3 ex4 ex5 hx hb hml hown hts hA hF hK hP hD hS hl k09 k19 k29 k39 k49 k59 k69
  · have _h9 := 0
    refine lv_aload hx hb dX16_say_133 (lv_at hl 4 rfl) ?_
    refine lv_iload hx hb dX16_say_135 (lv_at hl 0 rfl) ?_
    have hPc := hP.sub (ws' := [(t9, .inr (0, [.ref b9, .int 0, .int 0, .int 0])), (b9, .inl (cb9, 1, .inl fb9))]) [2, 3] rfl
    have hDc := hD.sub (ws' := [(t9, .inr (0, [.ref b9, .int 0, .int 0, .int 0])), (b9, .inl (cb9, 1, .inl fb9))]) [2, 3] (by decide) rfl
    have hKc := hK.sub (tys' := [(cb9, .byte)]) [1] rfl
    have hFc := va_free (wc := [(t9, .inr (0, [.ref b9, .int 0, .int 0, .int 0])), (b9, .inl (cb9, 1, .inl fb9))]) hD hS hA [2, 3] rfl
    refine va_callr (va_runS (As := [.ref t9, .int x5]) (rest := []) ⟨hx, hb, hml, hown, hts⟩ (kX16_said_7 l dC dI g H.size t9 x5 b9 (.int 0) (.int 0) cb9 fb9 hb9 ⟨by omega, by omega⟩) (va_cwS 2 hts (ns_gp (List.forall_mem_cons.mpr ⟨wm655, (List.forall_mem_cons.mpr ⟨wm656, (List.forall_mem_cons.mpr ⟨wm192, (fun _ h9 => nomatch h9)⟩)⟩)⟩) wm604) rfl rfl rfl (by decide +kernel) ⟨Nat.le_of_ble_eq_true rfl, Nat.le_of_ble_eq_true rfl⟩) ⟨fun a U gg mk q => by obtain ⟨q0, q1, qP, qK, qD, qF⟩ := q; exact ⟨q0, q1, qP, va_K.moved (u := U) (U := U.calling gg mk a) (Vm.Alike.refl U.vm) qK, qD, ns_same qF⟩, fun U hU hW => ⟨rfl, by rw [hU], by rw [hU]; exact hPc, va_K.moved hW.alike hKc, hDc.weaken (fun _ _ _ _ => trivial), ns_call hF hS hFc hU hW⟩⟩ rfl rfl hl.1 rfl (lv_room (Nat.le_of_ble_eq_true rfl)) dX16_say_137 ⟨Nat.le_of_ble_eq_true rfl, Nat.le_of_ble_eq_true rfl⟩) hS (fun q _ h => hFc q h) hFc (fun u r9 t H1 locs ht hvm hw hB hz1 hk1 hS => ?_)
    obtain ⟨hr9, hP1, hK1, hD1⟩ := hB
    obtain rfl := hr9.symm
    rw [ht] at hP1
    have hK1 := va_K.moved hvm.symm hK1
    obtain ⟨hP, hD⟩ := va_join (wr := [(h0, .inr (23, [.int 0, v1, v2, v3, .ref (g 34), v4, v5, v6, v7])), (q1, .inl (cyq1, 6, .inl (upd (upd (upd (upd (upd (upd (fun _ => 0) 0 x0) 1 x1) 2 x2) 3 x3) 4 x4) 5 x5)))]) (w1 := [(b9, .inl (cb9, 1, .inl fb9)), (t9, .inr (0, [.ref b9, .int 0, .int 0, .int 0]))]) hP hD [2, 3] [0, 1] rfl rfl (by decide) (by decide) hk1 hFc hP1 hD1
    have hK := (hK.sub (tys' := [(cyq1, .int)]) [0] rfl).app hK1
    generalize H1 = H at hP hS ⊢
    have hP : va_P (dC, dI) vwCl [(h0, .inr (23, [.int 0, v1, v2, v3, .ref (g 34), v4, v5, v6, v7])), (q1, .inl (cyq1, 6, .inl (upd (upd (upd (upd (upd (upd (fun _ => 0) 0 x0) 1 x1) 2 x2) 3 x3) 4 x4) 5 x5))), (b9, .inl (cb9, 1, .inl fb9)), (t9, .inr (0, [.ref b9, .int 0, .int 0, .int 0]))] H := hP
    have hD : va_D A [(h0, .inr (23, [.int 0, v1, v2, v3, .ref (g 34), v4, v5, v6, v7])), (q1, .inl (cyq1, 6, .inl (upd (upd (upd (upd (upd (upd (fun _ => 0) 0 x0) 1 x1) 2 x2) 3 x3) 4 x4) 5 x5))), (b9, .inl (cb9, 1, .inl fb9)), (t9, .inr (0, [.ref b9, .int 0, .int 0, .int 0]))] := hD
    have hK : va_K (dC, dI) vwCl [(cyq1, .int), (cb9, .byte)] s := hK
    refine W.widen (k := 31) (n := 206) (Nat.le_of_ble_eq_true rfl) (Nat.le_of_ble_eq_true rfl) ?_
    refine lv_astore (lv' := [(9, .ref (g 34)), (13, .int x5), (12, .int 5), (11, .int 6), (10, .ref q1), (0, .ref h0)]) hx hb dX16_say_140 hl (by decide) rfl (fun ls hl => ?_)
    refine lv_aload_n hx hb dX16_say_142 rfl (lv_at hl 5 rfl) ?_
    refine lv_aload hx hb dX16_say_143 (lv_at hl 0 rfl) ?_
    have hPc := hP.sub (ws' := []) [] rfl
    have hDc := hD.sub (ws' := []) [] (by decide) rfl
    have hKc := hK.sub (tys' := []) [] rfl
    have hFc := va_free (wc := []) hD hS hA [] rfl
    refine va_calli (va_runV (As := []) (rest := [.ref h0]) ⟨hx, hb, hml, hown, hts⟩ (kJ0_length_8abf5_2 l dC dI g H.size  ) (cwV 0 hts (ns_gp (List.forall_mem_cons.mpr ⟨wm646, (List.forall_mem_cons.mpr ⟨wm595, (List.forall_mem_cons.mpr ⟨wm596, (List.forall_mem_cons.mpr ⟨wm316, (fun _ h9 => nomatch h9)⟩)⟩)⟩)⟩) wm574) rfl rfl rfl (by decide +kernel) ⟨Nat.le_of_ble_eq_true rfl, Nat.le_of_ble_eq_true rfl⟩) ⟨fun a U gg mk q => by obtain ⟨q0, q1, qP, qK, qD, qF⟩ := q; exact ⟨q0, q1, qP, va_K.moved (u := U) (U := U.calling gg mk a) (Vm.Alike.refl U.vm) qK, qD, ns_same qF⟩, va_Orecv (ns_f38 hF) hS, fun U hU hW => ⟨rfl, by rw [hU], by rw [hU]; exact hPc, va_K.moved hW.alike hKc, hDc.weaken (fun _ _ _ _ => trivial), ns_call hF hS hFc hU hW⟩⟩ rfl rfl hl.1 rfl (lv_room (Nat.le_of_ble_eq_true rfl)) dX16_say_145 ⟨Nat.le_of_ble_eq_true rfl, Nat.le_of_ble_eq_true rfl⟩) hS (fun q _ h => hFc q h) hFc (fun r9 u t H1 locs ht hvm hw hB hz1 hk1 hS => ?_)
    obtain rfl := hw.symm
    obtain ⟨hP1, hK1, hD1⟩ := hB
    rw [ht] at hP1
    have hK1 := va_K.moved hvm.symm hK1
    obtain ⟨hP, hD⟩ := va_join (wr := [(h0, .inr (23, [.int 0, v1, v2, v3, .ref (g 34), v4, v5, v6, v7])), (q1, .inl (cyq1, 6, .inl (upd (upd (upd (upd (upd (upd (fun _ => 0) 0 x0) 1 x1) 2 x2) 3 x3) 4 x4) 5 x5))), (b9, .inl (cb9, 1, .inl fb9)), (t9, .inr (0, [.ref b9, .int 0, .int 0, .int 0]))]) (w1 := []) hP hD [] [0, 1, 2, 3] rfl rfl (by decide) (by decide) hk1 hFc hP1 hD1
    have hK := (hK.sub (tys' := [(cyq1, .int), (cb9, .byte)]) [0, 1] rfl).app hK1
    generalize H1 = H at hP hS ⊢
    have hP : va_P (dC, dI) vwCl [(h0, .inr (23, [.int 0, v1, v2, v3, .ref (g 34), v4, v5, v6, v7])), (q1, .inl (cyq1, 6, .inl (upd (upd (upd (upd (upd (upd (fun _ => 0) 0 x0) 1 x1) 2 x2) 3 x3) 4 x4) 5 x5))), (b9, .inl (cb9, 1, .inl fb9)), (t9, .inr (0, [.ref b9, .int 0, .int 0, .int 0]))] H := hP
    have hD : va_D A [(h0, .inr (23, [.int 0, v1, v2, v3, .ref (g 34), v4, v5, v6, v7])), (q1, .inl (cyq1, 6, .inl (upd (upd (upd (upd (upd (upd (fun _ => 0) 0 x0) 1 x1) 2 x2) 3 x3) 4 x4) 5 x5))), (b9, .inl (cb9, 1, .inl fb9)), (t9, .inr (0, [.ref b9, .int 0, .int 0, .int 0]))] := hD
    have hK : va_K (dC, dI) vwCl [(cyq1, .int), (cb9, .byte)] s := hK
    refine W.widen (k := 31) (n := 206) (Nat.le_of_ble_eq_true rfl) (Nat.le_of_ble_eq_true rfl) ?_
    refine lv_bipush (v := 60) hx hb dX16_say_148 (by decide) ?_
    refine lv_icmp_le (tgt := 157) hx hb dX16_say_150 (by decide) (fun c1013 => ?_) (fun c1013 => absurd (by decide) c1013)
    refine lv_iconst (v := 0) hx hb dX16_say_157 (by decide) ?_
    refine lv_iconst (v := 2) hx hb dX16_say_158 (by decide) ?_
    have hPc := hP.sub (ws' := [(h0, .inr (23, [.int 0, v1, v2, v3, .ref (g 34), v4, v5, v6, v7]))]) [0] rfl
    have hDc := hD.sub (ws' := [(h0, .inr (23, [.int 0, v1, v2, v3, .ref (g 34), v4, v5, v6, v7]))]) [0] (by decide) rfl
    have hKc := hK.sub (tys' := []) [] rfl
    have hFc := va_free (wc := [(h0, .inr (23, [.int 0, v1, v2, v3, .ref (g 34), v4, v5, v6, v7]))]) hD hS hA [0] rfl
    refine va_calli (va_runV (As := [.int 0, .int 2]) (rest := []) ⟨hx, hb, hml, hown, hts⟩ (kX16_refuse_3 l dC dI g H.size h0 v1 v2 v3 (.ref (g 34)) v4 v5 v6 v7 ) (cwV 2 hts (ns_gp (List.forall_mem_cons.mpr ⟨wm236, (List.forall_mem_cons.mpr ⟨wm237, (List.forall_mem_cons.mpr ⟨wm238, (List.forall_mem_cons.mpr ⟨wm192, (fun _ h9 => nomatch h9)⟩)⟩)⟩)⟩) wm235) rfl rfl rfl (by decide +kernel) ⟨Nat.le_of_ble_eq_true rfl, Nat.le_of_ble_eq_true rfl⟩) ⟨fun a U gg mk q => by obtain ⟨q0, q1, qP, qK, qD, qF⟩ := q; exact ⟨q0, q1, qP, va_K.moved (u := U) (U := U.calling gg mk a) (Vm.Alike.refl U.vm) qK, qD, ns_same qF⟩, va_recv hK hP (ci := 23) (q0 := 0) rfl rfl, fun U hU hW => ⟨rfl, by rw [hU], by rw [hU]; exact hPc, va_K.moved hW.alike hKc, hDc.weaken (fun _ _ _ _ => trivial), ns_call hF hS hFc hU hW⟩⟩ rfl rfl hl.1 rfl (lv_room (Nat.le_of_ble_eq_true rfl)) dX16_say_159 ⟨Nat.le_of_ble_eq_true rfl, Nat.le_of_ble_eq_true rfl⟩) hS (fun q _ h => hFc q h) hFc (fun r9 u t H1 locs ht hvm hw hB hz1 hk1 hS => ?_)
    obtain rfl := hw.symm
    obtain ⟨hP1, hK1, hD1⟩ := hB
    rw [ht] at hP1
    have hK1 := va_K.moved hvm.symm hK1
    obtain ⟨hP, hD⟩ := va_join (wr := [(q1, .inl (cyq1, 6, .inl (upd (upd (upd (upd (upd (upd (fun _ => 0) 0 x0) 1 x1) 2 x2) 3 x3) 4 x4) 5 x5))), (b9, .inl (cb9, 1, .inl fb9)), (t9, .inr (0, [.ref b9, .int 0, .int 0, .int 0]))]) (w1 := [(h0, .inr (23, [.int 0, v1, v2, v3, .ref (g 34), v4, v5, v6, v7]))]) hP hD [0] [1, 2, 3] rfl rfl (by decide) (by decide) hk1 hFc hP1 hD1
    have hK := (hK.sub (tys' := [(cyq1, .int), (cb9, .byte)]) [0, 1] rfl).app hK1
    generalize H1 = H at hP hS ⊢
    have hP : va_P (dC, dI) vwCl [(q1, .inl (cyq1, 6, .inl (upd (upd (upd (upd (upd (upd (fun _ => 0) 0 x0) 1 x1) 2 x2) 3 x3) 4 x4) 5 x5))), (b9, .inl (cb9, 1, .inl fb9)), (t9, .inr (0, [.ref b9, .int 0, .int 0, .int 0])), (h0, .inr (23, [.int 0, v1, v2, v3, .ref (g 34), v4, v5, v6, v7]))] H := hP
    have hD : va_D A [(q1, .inl (cyq1, 6, .inl (upd (upd (upd (upd (upd (upd (fun _ => 0) 0 x0) 1 x1) 2 x2) 3 x3) 4 x4) 5 x5))), (b9, .inl (cb9, 1, .inl fb9)), (t9, .inr (0, [.ref b9, .int 0, .int 0, .int 0])), (h0, .inr (23, [.int 0, v1, v2, v3, .ref (g 34), v4, v5, v6, v7]))] := hD
    have hK : va_K (dC, dI) vwCl [(cyq1, .int), (cb9, .byte)] s := hK
    refine W.widen (k := 31) (n := 206) (Nat.le_of_ble_eq_true rfl) (Nat.le_of_ble_eq_true rfl) ?_
    refine lv_if_eq (tgt := 167) hx hb dX16_say_162 (by decide) (fun c1014 => ?_) (fun c1014 => absurd (by decide) c1014)
    refine lv_iinc (v := 6) (lv' := [(12, .int 6), (9, .ref (g 34)), (13, .int x5), (11, .int 6), (10, .ref q1), (0, .ref h0)]) hx hb dX16_say_167 hl (k := 2) rfl (by decide) (by decide) rfl (fun ls hl => ?_)
    refine lv_goto (tgt := 119) hx hb dX16_say_170 (by decide) ?_
    have hP := hP.sub (ws' := [(h0, .inr (23, [.int 0, v1, v2, v3, .ref (g 34), v4, v5, v6, v7])), (q1, .inl (cyq1, 6, .inl (upd (upd (upd (upd (upd (upd (fun _ => 0) 0 x0) 1 x1) 2 x2) 3 x3) 4 x4) 5 x5)))]) [3, 0] rfl
    have hD := hD.sub (ws' := [(h0, .inr (23, [.int 0, v1, v2, v3, .ref (g 34), v4, v5, v6, v7])), (q1, .inl (cyq1, 6, .inl (upd (upd (upd (upd (upd (upd (fun _ => 0) 0 x0) 1 x1) 2 x2) 3 x3) 4 x4) 5 x5)))]) [3, 0] (by decide) rfl
    have hK := hK.sub (tys' := [(cyq1, .int)]) [0] rfl
    have hl := lv_sub hl (l' := [(12, .int 6), (11, .int 6), (10, .ref q1), (9, .ref (g 34)), (0, .ref h0)]) [0, 3, 4, 1, 5] rfl
    refine W.widen (k := 37) (n := 246) (Nat.le_of_ble_eq_true rfl) (Nat.le_of_ble_eq_true rfl) ?_
    have hE2 : ns_len E9 x5 = 0 := by rw [hE]; exact (ns_lenC x5 1 (by decide) (by omega)).trans (by decide)
    exact ns_say_6_0 hE2 ex0 ex1 ex2 ex3 ex4 ex5 hx hb hml hown hts hA hF hK hP hD hS hl k09 k19 k29 k39 k49 k59 k69
  · have _h9 := 0
    refine lv_aload hx hb dX16_say_133 (lv_at hl 4 rfl) ?_
    refine lv_iload hx hb dX16_say_135 (lv_at hl 0 rfl) ?_
    have hPc := hP.sub (ws' := []) [] rfl
    have hDc := hD.sub (ws' := []) [] (by decide) rfl
    have hKc := hK.sub (tys' := []) [] rfl
    have hFc := va_free (wc := []) hD hS hA [] rfl
    refine va_callr (va_runS (As := [.ref t9, .int x5]) (rest := []) ⟨hx, hb, hml, hown, hts⟩ (kX16_said_8 l dC dI g H.size t9 x5 ⟨by omega, by omega⟩) (va_cwS 2 hts (ns_gp (List.forall_mem_cons.mpr ⟨wm655, (List.forall_mem_cons.mpr ⟨wm656, (List.forall_mem_cons.mpr ⟨wm192, (fun _ h9 => nomatch h9)⟩)⟩)⟩) wm604) rfl rfl rfl (by decide +kernel) ⟨Nat.le_of_ble_eq_true rfl, Nat.le_of_ble_eq_true rfl⟩) ⟨fun a U gg mk q => by obtain ⟨q0, q1, qP, qK, qD, qF⟩ := q; exact ⟨q0, q1, qP, va_K.moved (u := U) (U := U.calling gg mk a) (Vm.Alike.refl U.vm) qK, qD, ns_same qF⟩, fun U hU hW => ⟨rfl, by rw [hU], by rw [hU]; exact hPc, va_K.moved hW.alike hKc, hDc.weaken (fun _ _ _ _ => trivial), ns_call hF hS hFc hU hW⟩⟩ rfl rfl hl.1 rfl (lv_room (Nat.le_of_ble_eq_true rfl)) dX16_say_137 ⟨Nat.le_of_ble_eq_true rfl, Nat.le_of_ble_eq_true rfl⟩) hS (fun q _ h => hFc q h) hFc (fun u r9 t H1 locs ht hvm hw hB hz1 hk1 hS => ?_)
    obtain ⟨hr9, hP1, hK1, hD1⟩ := hB
    obtain rfl := hr9.symm
    rw [ht] at hP1
    have hK1 := va_K.moved hvm.symm hK1
    obtain ⟨hP, hD⟩ := va_join (wr := [(h0, .inr (23, [.int 0, v1, v2, v3, .ref (g 34), v4, v5, v6, v7])), (q1, .inl (cyq1, 6, .inl (upd (upd (upd (upd (upd (upd (fun _ => 0) 0 x0) 1 x1) 2 x2) 3 x3) 4 x4) 5 x5))), (t9, .inr (0, [.ref b9, .int 0, .int 0, .int 0])), (b9, .inl (cb9, 1, .inl fb9))]) (w1 := []) hP hD [] [0, 1, 2, 3] rfl rfl (by decide) (by decide) hk1 hFc hP1 hD1
    have hK := (hK.sub (tys' := [(cyq1, .int), (cb9, .byte)]) [0, 1] rfl).app hK1
    generalize H1 = H at hP hS ⊢
    have hP : va_P (dC, dI) vwCl [(h0, .inr (23, [.int 0, v1, v2, v3, .ref (g 34), v4, v5, v6, v7])), (q1, .inl (cyq1, 6, .inl (upd (upd (upd (upd (upd (upd (fun _ => 0) 0 x0) 1 x1) 2 x2) 3 x3) 4 x4) 5 x5))), (t9, .inr (0, [.ref b9, .int 0, .int 0, .int 0])), (b9, .inl (cb9, 1, .inl fb9))] H := hP
    have hD : va_D A [(h0, .inr (23, [.int 0, v1, v2, v3, .ref (g 34), v4, v5, v6, v7])), (q1, .inl (cyq1, 6, .inl (upd (upd (upd (upd (upd (upd (fun _ => 0) 0 x0) 1 x1) 2 x2) 3 x3) 4 x4) 5 x5))), (t9, .inr (0, [.ref b9, .int 0, .int 0, .int 0])), (b9, .inl (cb9, 1, .inl fb9))] := hD
    have hK : va_K (dC, dI) vwCl [(cyq1, .int), (cb9, .byte)] s := hK
    refine W.widen (k := 31) (n := 206) (Nat.le_of_ble_eq_true rfl) (Nat.le_of_ble_eq_true rfl) ?_
    refine lv_astore (lv' := [(9, .ref (g 34)), (13, .int x5), (12, .int 5), (11, .int 6), (10, .ref q1), (0, .ref h0)]) hx hb dX16_say_140 hl (by decide) rfl (fun ls hl => ?_)
    refine lv_aload_n hx hb dX16_say_142 rfl (lv_at hl 5 rfl) ?_
    refine lv_aload hx hb dX16_say_143 (lv_at hl 0 rfl) ?_
    have hPc := hP.sub (ws' := []) [] rfl
    have hDc := hD.sub (ws' := []) [] (by decide) rfl
    have hKc := hK.sub (tys' := []) [] rfl
    have hFc := va_free (wc := []) hD hS hA [] rfl
    refine va_calli (va_runV (As := []) (rest := [.ref h0]) ⟨hx, hb, hml, hown, hts⟩ (kJ0_length_8abf5_2 l dC dI g H.size  ) (cwV 0 hts (ns_gp (List.forall_mem_cons.mpr ⟨wm646, (List.forall_mem_cons.mpr ⟨wm595, (List.forall_mem_cons.mpr ⟨wm596, (List.forall_mem_cons.mpr ⟨wm316, (fun _ h9 => nomatch h9)⟩)⟩)⟩)⟩) wm574) rfl rfl rfl (by decide +kernel) ⟨Nat.le_of_ble_eq_true rfl, Nat.le_of_ble_eq_true rfl⟩) ⟨fun a U gg mk q => by obtain ⟨q0, q1, qP, qK, qD, qF⟩ := q; exact ⟨q0, q1, qP, va_K.moved (u := U) (U := U.calling gg mk a) (Vm.Alike.refl U.vm) qK, qD, ns_same qF⟩, va_Orecv (ns_f38 hF) hS, fun U hU hW => ⟨rfl, by rw [hU], by rw [hU]; exact hPc, va_K.moved hW.alike hKc, hDc.weaken (fun _ _ _ _ => trivial), ns_call hF hS hFc hU hW⟩⟩ rfl rfl hl.1 rfl (lv_room (Nat.le_of_ble_eq_true rfl)) dX16_say_145 ⟨Nat.le_of_ble_eq_true rfl, Nat.le_of_ble_eq_true rfl⟩) hS (fun q _ h => hFc q h) hFc (fun r9 u t H1 locs ht hvm hw hB hz1 hk1 hS => ?_)
    obtain rfl := hw.symm
    obtain ⟨hP1, hK1, hD1⟩ := hB
    rw [ht] at hP1
    have hK1 := va_K.moved hvm.symm hK1
    obtain ⟨hP, hD⟩ := va_join (wr := [(h0, .inr (23, [.int 0, v1, v2, v3, .ref (g 34), v4, v5, v6, v7])), (q1, .inl (cyq1, 6, .inl (upd (upd (upd (upd (upd (upd (fun _ => 0) 0 x0) 1 x1) 2 x2) 3 x3) 4 x4) 5 x5))), (t9, .inr (0, [.ref b9, .int 0, .int 0, .int 0])), (b9, .inl (cb9, 1, .inl fb9))]) (w1 := []) hP hD [] [0, 1, 2, 3] rfl rfl (by decide) (by decide) hk1 hFc hP1 hD1
    have hK := (hK.sub (tys' := [(cyq1, .int), (cb9, .byte)]) [0, 1] rfl).app hK1
    generalize H1 = H at hP hS ⊢
    have hP : va_P (dC, dI) vwCl [(h0, .inr (23, [.int 0, v1, v2, v3, .ref (g 34), v4, v5, v6, v7])), (q1, .inl (cyq1, 6, .inl (upd (upd (upd (upd (upd (upd (fun _ => 0) 0 x0) 1 x1) 2 x2) 3 x3) 4 x4) 5 x5))), (t9, .inr (0, [.ref b9, .int 0, .int 0, .int 0])), (b9, .inl (cb9, 1, .inl fb9))] H := hP
    have hD : va_D A [(h0, .inr (23, [.int 0, v1, v2, v3, .ref (g 34), v4, v5, v6, v7])), (q1, .inl (cyq1, 6, .inl (upd (upd (upd (upd (upd (upd (fun _ => 0) 0 x0) 1 x1) 2 x2) 3 x3) 4 x4) 5 x5))), (t9, .inr (0, [.ref b9, .int 0, .int 0, .int 0])), (b9, .inl (cb9, 1, .inl fb9))] := hD
    have hK : va_K (dC, dI) vwCl [(cyq1, .int), (cb9, .byte)] s := hK
    refine W.widen (k := 31) (n := 206) (Nat.le_of_ble_eq_true rfl) (Nat.le_of_ble_eq_true rfl) ?_
    refine lv_bipush (v := 60) hx hb dX16_say_148 (by decide) ?_
    refine lv_icmp_le (tgt := 157) hx hb dX16_say_150 (by decide) (fun c1015 => ?_) (fun c1015 => absurd (by decide) c1015)
    refine lv_iconst (v := 0) hx hb dX16_say_157 (by decide) ?_
    refine lv_iconst (v := 2) hx hb dX16_say_158 (by decide) ?_
    have hPc := hP.sub (ws' := [(h0, .inr (23, [.int 0, v1, v2, v3, .ref (g 34), v4, v5, v6, v7]))]) [0] rfl
    have hDc := hD.sub (ws' := [(h0, .inr (23, [.int 0, v1, v2, v3, .ref (g 34), v4, v5, v6, v7]))]) [0] (by decide) rfl
    have hKc := hK.sub (tys' := []) [] rfl
    have hFc := va_free (wc := [(h0, .inr (23, [.int 0, v1, v2, v3, .ref (g 34), v4, v5, v6, v7]))]) hD hS hA [0] rfl
    refine va_calli (va_runV (As := [.int 0, .int 2]) (rest := []) ⟨hx, hb, hml, hown, hts⟩ (kX16_refuse_3 l dC dI g H.size h0 v1 v2 v3 (.ref (g 34)) v4 v5 v6 v7 ) (cwV 2 hts (ns_gp (List.forall_mem_cons.mpr ⟨wm236, (List.forall_mem_cons.mpr ⟨wm237, (List.forall_mem_cons.mpr ⟨wm238, (List.forall_mem_cons.mpr ⟨wm192, (fun _ h9 => nomatch h9)⟩)⟩)⟩)⟩) wm235) rfl rfl rfl (by decide +kernel) ⟨Nat.le_of_ble_eq_true rfl, Nat.le_of_ble_eq_true rfl⟩) ⟨fun a U gg mk q => by obtain ⟨q0, q1, qP, qK, qD, qF⟩ := q; exact ⟨q0, q1, qP, va_K.moved (u := U) (U := U.calling gg mk a) (Vm.Alike.refl U.vm) qK, qD, ns_same qF⟩, va_recv hK hP (ci := 23) (q0 := 0) rfl rfl, fun U hU hW => ⟨rfl, by rw [hU], by rw [hU]; exact hPc, va_K.moved hW.alike hKc, hDc.weaken (fun _ _ _ _ => trivial), ns_call hF hS hFc hU hW⟩⟩ rfl rfl hl.1 rfl (lv_room (Nat.le_of_ble_eq_true rfl)) dX16_say_159 ⟨Nat.le_of_ble_eq_true rfl, Nat.le_of_ble_eq_true rfl⟩) hS (fun q _ h => hFc q h) hFc (fun r9 u t H1 locs ht hvm hw hB hz1 hk1 hS => ?_)
    obtain rfl := hw.symm
    obtain ⟨hP1, hK1, hD1⟩ := hB
    rw [ht] at hP1
    have hK1 := va_K.moved hvm.symm hK1
    obtain ⟨hP, hD⟩ := va_join (wr := [(q1, .inl (cyq1, 6, .inl (upd (upd (upd (upd (upd (upd (fun _ => 0) 0 x0) 1 x1) 2 x2) 3 x3) 4 x4) 5 x5))), (t9, .inr (0, [.ref b9, .int 0, .int 0, .int 0])), (b9, .inl (cb9, 1, .inl fb9))]) (w1 := [(h0, .inr (23, [.int 0, v1, v2, v3, .ref (g 34), v4, v5, v6, v7]))]) hP hD [0] [1, 2, 3] rfl rfl (by decide) (by decide) hk1 hFc hP1 hD1
    have hK := (hK.sub (tys' := [(cyq1, .int), (cb9, .byte)]) [0, 1] rfl).app hK1
    generalize H1 = H at hP hS ⊢
    have hP : va_P (dC, dI) vwCl [(q1, .inl (cyq1, 6, .inl (upd (upd (upd (upd (upd (upd (fun _ => 0) 0 x0) 1 x1) 2 x2) 3 x3) 4 x4) 5 x5))), (t9, .inr (0, [.ref b9, .int 0, .int 0, .int 0])), (b9, .inl (cb9, 1, .inl fb9)), (h0, .inr (23, [.int 0, v1, v2, v3, .ref (g 34), v4, v5, v6, v7]))] H := hP
    have hD : va_D A [(q1, .inl (cyq1, 6, .inl (upd (upd (upd (upd (upd (upd (fun _ => 0) 0 x0) 1 x1) 2 x2) 3 x3) 4 x4) 5 x5))), (t9, .inr (0, [.ref b9, .int 0, .int 0, .int 0])), (b9, .inl (cb9, 1, .inl fb9)), (h0, .inr (23, [.int 0, v1, v2, v3, .ref (g 34), v4, v5, v6, v7]))] := hD
    have hK : va_K (dC, dI) vwCl [(cyq1, .int), (cb9, .byte)] s := hK
    refine W.widen (k := 31) (n := 206) (Nat.le_of_ble_eq_true rfl) (Nat.le_of_ble_eq_true rfl) ?_
    refine lv_if_eq (tgt := 167) hx hb dX16_say_162 (by decide) (fun c1016 => ?_) (fun c1016 => absurd (by decide) c1016)
    refine lv_iinc (v := 6) (lv' := [(12, .int 6), (9, .ref (g 34)), (13, .int x5), (11, .int 6), (10, .ref q1), (0, .ref h0)]) hx hb dX16_say_167 hl (k := 2) rfl (by decide) (by decide) rfl (fun ls hl => ?_)
    refine lv_goto (tgt := 119) hx hb dX16_say_170 (by decide) ?_
    have hP := hP.sub (ws' := [(h0, .inr (23, [.int 0, v1, v2, v3, .ref (g 34), v4, v5, v6, v7])), (q1, .inl (cyq1, 6, .inl (upd (upd (upd (upd (upd (upd (fun _ => 0) 0 x0) 1 x1) 2 x2) 3 x3) 4 x4) 5 x5)))]) [3, 0] rfl
    have hD := hD.sub (ws' := [(h0, .inr (23, [.int 0, v1, v2, v3, .ref (g 34), v4, v5, v6, v7])), (q1, .inl (cyq1, 6, .inl (upd (upd (upd (upd (upd (upd (fun _ => 0) 0 x0) 1 x1) 2 x2) 3 x3) 4 x4) 5 x5)))]) [3, 0] (by decide) rfl
    have hK := hK.sub (tys' := [(cyq1, .int)]) [0] rfl
    have hl := lv_sub hl (l' := [(12, .int 6), (11, .int 6), (10, .ref q1), (9, .ref (g 34)), (0, .ref h0)]) [0, 3, 4, 1, 5] rfl
    refine W.widen (k := 37) (n := 246) (Nat.le_of_ble_eq_true rfl) (Nat.le_of_ble_eq_true rfl) ?_
    have hE2 : ns_len E9 x5 = 0 := by rw [hE]; exact ns_lenD x5 1 (by omega)
    exact ns_say_6_0 hE2 ex0 ex1 ex2 ex3 ex4 ex5 hx hb hml hown hts hA hF hK hP hD hS hl k09 k19 k29 k39 k49 k59 k69

set_option maxHeartbeats 4000000 in
set_option maxRecDepth 100000 in
theorem ns_say_4_4 {p : Program} {l : Launch} {e : Env} {s : State} {m : MethodId} {args : Array Value} {below : List Frame} {meth : Method} {c : Code} {dC : Nat → ClassId} {dI : Nat → Nat → Nat} {g : Nat → Nat} {A : Nat → Prop} {Q : State → Prop} {h0 : Nat} {x0 : Int32} {x1 : Int32} {x2 : Int32} {x3 : Int32} {x4 : Int32} {x5 : Int32} {v1 : Value} {v2 : Value} {v3 : Value} {v4 : Value} {v5 : Value} {v6 : Value} {v7 : Value} {q1 : Nat} {cyq1 : ClassId} {t9 b9 : Nat} {cb9 : ClassId} {fb9 : Nat → Int32} (hb9 : sb_Fit fb9) {H : Heap} {locs : List Loc} {ls : Array Slot} {E9 : Int32} (hE : E9 = 4) (ex0 : (-1 : Int) ≤ x0.toInt ∧ x0.toInt ≤ (21 : Int)) (ex1 : (-1 : Int) ≤ x1.toInt ∧ x1.toInt ≤ (21 : Int)) (ex2 : (-1 : Int) ≤ x2.toInt ∧ x2.toInt ≤ (21 : Int)) (ex3 : (-1 : Int) ≤ x3.toInt ∧ x3.toInt ≤ (21 : Int)) (ex4 : (-1 : Int) ≤ x4.toInt ∧ x4.toInt ≤ (21 : Int)) (ex5 : (-1 : Int) ≤ x5.toInt ∧ x5.toInt ≤ (21 : Int)) (hx : p.tables.exec = Jvm.exec) (hb : c.code = cX16_say) (hml : c.maxLocals = 14) (hown : s.vm.findClass RX16 = some m.cls) (hts : ∀ w ∈ wbX16_say, w.before args s = true) (hA : ∀ q : Nat, s.heap.size ≤ q → A q) (hF : ns_F g A s s.heap) (hK : va_K (dC, dI) vwCl [(cyq1, .int), (cb9, .byte)] s) (hP : va_P (dC, dI) vwCl [(h0, .inr (23, [.int 0, v1, v2, v3, .ref (g 34), v4, v5, v6, v7])), (q1, .inl (cyq1, 6, .inl (upd (upd (upd (upd (upd (upd (fun _ => 0) 0 x0) 1 x1) 2 x2) 3 x3) 4 x4) 5 x5))), (t9, .inr (0, [.ref b9, .int 0, .int 0, .int 0])), (b9, .inl (cb9, 4, .inl fb9))] H) (hD : va_D A [(h0, .inr (23, [.int 0, v1, v2, v3, .ref (g 34), v4, v5, v6, v7])), (q1, .inl (cyq1, 6, .inl (upd (upd (upd (upd (upd (upd (fun _ => 0) 0 x0) 1 x1) 2 x2) 3 x3) 4 x4) 5 x5))), (t9, .inr (0, [.ref b9, .int 0, .int 0, .int 0])), (b9, .inl (cb9, 4, .inl fb9))]) (hS : va_S A s.heap H locs) (hl : lv_has ls 14 [(12, .int 4), (11, .int 6), (10, .ref q1), (9, .ref t9), (0, .ref h0)]) (k09 : ∀ (H : Heap) (locs : List Loc) (ls : Array Slot), (ns_len (ns_len E9 x4) x5) = 0 → va_K (dC, dI) vwCl [(cyq1, .int)] s → va_P (dC, dI) vwCl [(h0, .inr (23, [.int 0, v1, v2, v3, .ref (g 34), v4, v5, v6, v7])), (q1, .inl (cyq1, 6, .inl (upd (upd (upd (upd (upd (upd (fun _ => 0) 0 x0) 1 x1) 2 x2) 3 x3) 4 x4) 5 x5)))] H → va_D A [(h0, .inr (23, [.int 0, v1, v2, v3, .ref (g 34), v4, v5, v6, v7])), (q1, .inl (cyq1, 6, .inl (upd (upd (upd (upd (upd (upd (fun _ => 0) 0 x0) 1 x1) 2 x2) 3 x3) 4 x4) 5 x5)))] → va_S A s.heap H locs → lv_has ls 14 [(9, .ref (g 34)), (0, .ref h0)] → W p l e ({ frames := 7, cells := 37, slots := 246, locals := 172 } : Room) s m args below meth c H locs 37 246 Q (F0 m 173 ls [])) (k19 : ∀ (t9 b9 : Nat) (cb9 : ClassId) (fb9 : Nat → Int32) (hb9 : sb_Fit fb9), ∀ (H : Heap) (locs : List Loc) (ls : Array Slot), (ns_len (ns_len E9 x4) x5) = 1 → va_K (dC, dI) vwCl [(cyq1, .int), (cb9, .byte)] s → va_P (dC, dI) vwCl [(h0, .inr (23, [.int 0, v1, v2, v3, .ref (g 34), v4, v5, v6, v7])), (q1, .inl (cyq1, 6, .inl (upd (upd (upd (upd (upd (upd (fun _ => 0) 0 x0) 1 x1) 2 x2) 3 x3) 4 x4) 5 x5))), (t9, .inr (0, [.ref b9, .int 0, .int 0, .int 0])), (b9, .inl (cb9, 1, .inl fb9))] H → va_D A [(h0, .inr (23, [.int 0, v1, v2, v3, .ref (g 34), v4, v5, v6, v7])), (q1, .inl (cyq1, 6, .inl (upd (upd (upd (upd (upd (upd (fun _ => 0) 0 x0) 1 x1) 2 x2) 3 x3) 4 x4) 5 x5))), (t9, .inr (0, [.ref b9, .int 0, .int 0, .int 0])), (b9, .inl (cb9, 1, .inl fb9))] → va_S A s.heap H locs → lv_has ls 14 [(9, .ref t9), (0, .ref h0)] → W p l e ({ frames := 7, cells := 37, slots := 246, locals := 172 } : Room) s m args below meth c H locs 37 246 Q (F0 m 173 ls [])) (k29 : ∀ (t9 b9 : Nat) (cb9 : ClassId) (fb9 : Nat → Int32) (hb9 : sb_Fit fb9), ∀ (H : Heap) (locs : List Loc) (ls : Array Slot), (ns_len (ns_len E9 x4) x5) = 2 → va_K (dC, dI) vwCl [(cyq1, .int), (cb9, .byte)] s → va_P (dC, dI) vwCl [(h0, .inr (23, [.int 0, v1, v2, v3, .ref (g 34), v4, v5, v6, v7])), (q1, .inl (cyq1, 6, .inl (upd (upd (upd (upd (upd (upd (fun _ => 0) 0 x0) 1 x1) 2 x2) 3 x3) 4 x4) 5 x5))), (t9, .inr (0, [.ref b9, .int 0, .int 0, .int 0])), (b9, .inl (cb9, 2, .inl fb9))] H → va_D A [(h0, .inr (23, [.int 0, v1, v2, v3, .ref (g 34), v4, v5, v6, v7])), (q1, .inl (cyq1, 6, .inl (upd (upd (upd (upd (upd (upd (fun _ => 0) 0 x0) 1 x1) 2 x2) 3 x3) 4 x4) 5 x5))), (t9, .inr (0, [.ref b9, .int 0, .int 0, .int 0])), (b9, .inl (cb9, 2, .inl fb9))] → va_S A s.heap H locs → lv_has ls 14 [(9, .ref t9), (0, .ref h0)] → W p l e ({ frames := 7, cells := 37, slots := 246, locals := 172 } : Room) s m args below meth c H locs 37 246 Q (F0 m 173 ls [])) (k39 : ∀ (t9 b9 : Nat) (cb9 : ClassId) (fb9 : Nat → Int32) (hb9 : sb_Fit fb9), ∀ (H : Heap) (locs : List Loc) (ls : Array Slot), (ns_len (ns_len E9 x4) x5) = 3 → va_K (dC, dI) vwCl [(cyq1, .int), (cb9, .byte)] s → va_P (dC, dI) vwCl [(h0, .inr (23, [.int 0, v1, v2, v3, .ref (g 34), v4, v5, v6, v7])), (q1, .inl (cyq1, 6, .inl (upd (upd (upd (upd (upd (upd (fun _ => 0) 0 x0) 1 x1) 2 x2) 3 x3) 4 x4) 5 x5))), (t9, .inr (0, [.ref b9, .int 0, .int 0, .int 0])), (b9, .inl (cb9, 3, .inl fb9))] H → va_D A [(h0, .inr (23, [.int 0, v1, v2, v3, .ref (g 34), v4, v5, v6, v7])), (q1, .inl (cyq1, 6, .inl (upd (upd (upd (upd (upd (upd (fun _ => 0) 0 x0) 1 x1) 2 x2) 3 x3) 4 x4) 5 x5))), (t9, .inr (0, [.ref b9, .int 0, .int 0, .int 0])), (b9, .inl (cb9, 3, .inl fb9))] → va_S A s.heap H locs → lv_has ls 14 [(9, .ref t9), (0, .ref h0)] → W p l e ({ frames := 7, cells := 37, slots := 246, locals := 172 } : Room) s m args below meth c H locs 37 246 Q (F0 m 173 ls [])) (k49 : ∀ (t9 b9 : Nat) (cb9 : ClassId) (fb9 : Nat → Int32) (hb9 : sb_Fit fb9), ∀ (H : Heap) (locs : List Loc) (ls : Array Slot), (ns_len (ns_len E9 x4) x5) = 4 → va_K (dC, dI) vwCl [(cyq1, .int), (cb9, .byte)] s → va_P (dC, dI) vwCl [(h0, .inr (23, [.int 0, v1, v2, v3, .ref (g 34), v4, v5, v6, v7])), (q1, .inl (cyq1, 6, .inl (upd (upd (upd (upd (upd (upd (fun _ => 0) 0 x0) 1 x1) 2 x2) 3 x3) 4 x4) 5 x5))), (t9, .inr (0, [.ref b9, .int 0, .int 0, .int 0])), (b9, .inl (cb9, 4, .inl fb9))] H → va_D A [(h0, .inr (23, [.int 0, v1, v2, v3, .ref (g 34), v4, v5, v6, v7])), (q1, .inl (cyq1, 6, .inl (upd (upd (upd (upd (upd (upd (fun _ => 0) 0 x0) 1 x1) 2 x2) 3 x3) 4 x4) 5 x5))), (t9, .inr (0, [.ref b9, .int 0, .int 0, .int 0])), (b9, .inl (cb9, 4, .inl fb9))] → va_S A s.heap H locs → lv_has ls 14 [(9, .ref t9), (0, .ref h0)] → W p l e ({ frames := 7, cells := 37, slots := 246, locals := 172 } : Room) s m args below meth c H locs 37 246 Q (F0 m 173 ls [])) (k59 : ∀ (t9 b9 : Nat) (cb9 : ClassId) (fb9 : Nat → Int32) (hb9 : sb_Fit fb9), ∀ (H : Heap) (locs : List Loc) (ls : Array Slot), (ns_len (ns_len E9 x4) x5) = 5 → va_K (dC, dI) vwCl [(cyq1, .int), (cb9, .byte)] s → va_P (dC, dI) vwCl [(h0, .inr (23, [.int 0, v1, v2, v3, .ref (g 34), v4, v5, v6, v7])), (q1, .inl (cyq1, 6, .inl (upd (upd (upd (upd (upd (upd (fun _ => 0) 0 x0) 1 x1) 2 x2) 3 x3) 4 x4) 5 x5))), (t9, .inr (0, [.ref b9, .int 0, .int 0, .int 0])), (b9, .inl (cb9, 5, .inl fb9))] H → va_D A [(h0, .inr (23, [.int 0, v1, v2, v3, .ref (g 34), v4, v5, v6, v7])), (q1, .inl (cyq1, 6, .inl (upd (upd (upd (upd (upd (upd (fun _ => 0) 0 x0) 1 x1) 2 x2) 3 x3) 4 x4) 5 x5))), (t9, .inr (0, [.ref b9, .int 0, .int 0, .int 0])), (b9, .inl (cb9, 5, .inl fb9))] → va_S A s.heap H locs → lv_has ls 14 [(9, .ref t9), (0, .ref h0)] → W p l e ({ frames := 7, cells := 37, slots := 246, locals := 172 } : Room) s m args below meth c H locs 37 246 Q (F0 m 173 ls [])) (k69 : ∀ (t9 b9 : Nat) (cb9 : ClassId) (fb9 : Nat → Int32) (hb9 : sb_Fit fb9), ∀ (H : Heap) (locs : List Loc) (ls : Array Slot), (ns_len (ns_len E9 x4) x5) = 6 → va_K (dC, dI) vwCl [(cyq1, .int), (cb9, .byte)] s → va_P (dC, dI) vwCl [(h0, .inr (23, [.int 0, v1, v2, v3, .ref (g 34), v4, v5, v6, v7])), (q1, .inl (cyq1, 6, .inl (upd (upd (upd (upd (upd (upd (fun _ => 0) 0 x0) 1 x1) 2 x2) 3 x3) 4 x4) 5 x5))), (t9, .inr (0, [.ref b9, .int 0, .int 0, .int 0])), (b9, .inl (cb9, 6, .inl fb9))] H → va_D A [(h0, .inr (23, [.int 0, v1, v2, v3, .ref (g 34), v4, v5, v6, v7])), (q1, .inl (cyq1, 6, .inl (upd (upd (upd (upd (upd (upd (fun _ => 0) 0 x0) 1 x1) 2 x2) 3 x3) 4 x4) 5 x5))), (t9, .inr (0, [.ref b9, .int 0, .int 0, .int 0])), (b9, .inl (cb9, 6, .inl fb9))] → va_S A s.heap H locs → lv_has ls 14 [(9, .ref t9), (0, .ref h0)] → W p l e ({ frames := 7, cells := 37, slots := 246, locals := 172 } : Room) s m args below meth c H locs 37 246 Q (F0 m 173 ls [])) : W p l e ({ frames := 7, cells := 37, slots := 246, locals := 172 } : Room) s m args below meth c H locs 25 166 Q (F0 m 119 ls []) := by
  have hta : ∀ w ∈ wsALL, w.before args s = true := fun w h => hts w (List.mem_cons_of_mem _ h)
  refine lv_iload hx hb dX16_say_119 (lv_at hl 0 rfl) ?_
  refine lv_iload hx hb dX16_say_121 (lv_at hl 1 rfl) ?_
  refine lv_icmp_ge (tgt := 173) hx hb dX16_say_123 (by decide) (fun c1001 => absurd c1001 (by decide)) (fun c1001 => ?_)
  refine lv_aload hx hb dX16_say_126 (lv_at hl 2 rfl) ?_
  refine lv_iload hx hb dX16_say_128 (lv_at hl 0 rfl) ?_
  refine va_iald hx hb hK hP 1 0 rfl rfl (vp_in_nI (n := 4) (by decide) (by decide)) dX16_say_130 ?_
  refine lv_topi (fun y1002 ey1002 => ?_)
  obtain rfl : x4 = y1002 := ey1002.symm
  refine lv_istore (lv' := [(13, .int x4), (12, .int 4), (11, .int 6), (10, .ref q1), (9, .ref t9), (0, .ref h0)]) hx hb dX16_say_131 hl (by decide) rfl (fun ls hl => ?_)
  rcases (show ((-1 : Int) ≤ x4.toInt ∧ x4.toInt ≤ (-1 : Int)) ∨ ((0 : Int) ≤ x4.toInt ∧ x4.toInt ≤ (19 : Int)) ∨ ((20 : Int) ≤ x4.toInt ∧ x4.toInt ≤ (20 : Int)) ∨ ((21 : Int) ≤ x4.toInt ∧ x4.toInt ≤ (21 : Int)) by omega) with r13 | r13 | r13 | r13
  · have _h9 := 0
    refine lv_aload hx hb dX16_say_133 (lv_at hl 4 rfl) ?_
    refine lv_iload hx hb dX16_say_135 (lv_at hl 0 rfl) ?_
    have hPc := hP.sub (ws' := []) [] rfl
    have hDc := hD.sub (ws' := []) [] (by decide) rfl
    have hKc := hK.sub (tys' := []) [] rfl
    have hFc := va_free (wc := []) hD hS hA [] rfl
    refine va_callr (va_runS (As := [.ref t9, .int x4]) (rest := []) ⟨hx, hb, hml, hown, hts⟩ (kX16_said_5 l dC dI g H.size t9 x4 ⟨by omega, by omega⟩) (va_cwS 2 hts (ns_gp (List.forall_mem_cons.mpr ⟨wm655, (List.forall_mem_cons.mpr ⟨wm656, (List.forall_mem_cons.mpr ⟨wm192, (fun _ h9 => nomatch h9)⟩)⟩)⟩) wm604) rfl rfl rfl (by decide +kernel) ⟨Nat.le_of_ble_eq_true rfl, Nat.le_of_ble_eq_true rfl⟩) ⟨fun a U gg mk q => by obtain ⟨q0, q1, qP, qK, qD, qF⟩ := q; exact ⟨q0, q1, qP, va_K.moved (u := U) (U := U.calling gg mk a) (Vm.Alike.refl U.vm) qK, qD, ns_same qF⟩, fun U hU hW => ⟨rfl, by rw [hU], by rw [hU]; exact hPc, va_K.moved hW.alike hKc, hDc.weaken (fun _ _ _ _ => trivial), ns_call hF hS hFc hU hW⟩⟩ rfl rfl hl.1 rfl (lv_room (Nat.le_of_ble_eq_true rfl)) dX16_say_137 ⟨Nat.le_of_ble_eq_true rfl, Nat.le_of_ble_eq_true rfl⟩) hS (fun q _ h => hFc q h) hFc (fun u r9 t H1 locs ht hvm hw hB hz1 hk1 hS => ?_)
    obtain ⟨hr9, hP1, hK1, hD1⟩ := hB
    obtain rfl := hr9.symm
    rw [ht] at hP1
    have hK1 := va_K.moved hvm.symm hK1
    obtain ⟨hP, hD⟩ := va_join (wr := [(h0, .inr (23, [.int 0, v1, v2, v3, .ref (g 34), v4, v5, v6, v7])), (q1, .inl (cyq1, 6, .inl (upd (upd (upd (upd (upd (upd (fun _ => 0) 0 x0) 1 x1) 2 x2) 3 x3) 4 x4) 5 x5))), (t9, .inr (0, [.ref b9, .int 0, .int 0, .int 0])), (b9, .inl (cb9, 4, .inl fb9))]) (w1 := []) hP hD [] [0, 1, 2, 3] rfl rfl (by decide) (by decide) hk1 hFc hP1 hD1
    have hK := (hK.sub (tys' := [(cyq1, .int), (cb9, .byte)]) [0, 1] rfl).app hK1
    generalize H1 = H at hP hS ⊢
    have hP : va_P (dC, dI) vwCl [(h0, .inr (23, [.int 0, v1, v2, v3, .ref (g 34), v4, v5, v6, v7])), (q1, .inl (cyq1, 6, .inl (upd (upd (upd (upd (upd (upd (fun _ => 0) 0 x0) 1 x1) 2 x2) 3 x3) 4 x4) 5 x5))), (t9, .inr (0, [.ref b9, .int 0, .int 0, .int 0])), (b9, .inl (cb9, 4, .inl fb9))] H := hP
    have hD : va_D A [(h0, .inr (23, [.int 0, v1, v2, v3, .ref (g 34), v4, v5, v6, v7])), (q1, .inl (cyq1, 6, .inl (upd (upd (upd (upd (upd (upd (fun _ => 0) 0 x0) 1 x1) 2 x2) 3 x3) 4 x4) 5 x5))), (t9, .inr (0, [.ref b9, .int 0, .int 0, .int 0])), (b9, .inl (cb9, 4, .inl fb9))] := hD
    have hK : va_K (dC, dI) vwCl [(cyq1, .int), (cb9, .byte)] s := hK
    refine W.widen (k := 25) (n := 166) (Nat.le_of_ble_eq_true rfl) (Nat.le_of_ble_eq_true rfl) ?_
    refine lv_astore (lv' := [(9, .ref t9), (13, .int x4), (12, .int 4), (11, .int 6), (10, .ref q1), (0, .ref h0)]) hx hb dX16_say_140 hl (by decide) rfl (fun ls hl => ?_)
    refine lv_aload_n hx hb dX16_say_142 rfl (lv_at hl 5 rfl) ?_
    refine lv_aload hx hb dX16_say_143 (lv_at hl 0 rfl) ?_
    have hPc := hP.sub (ws' := [(t9, .inr (0, [.ref b9, .int 0, .int 0, .int 0])), (b9, .inl (cb9, 4, .inl fb9))]) [2, 3] rfl
    have hDc := hD.sub (ws' := [(t9, .inr (0, [.ref b9, .int 0, .int 0, .int 0])), (b9, .inl (cb9, 4, .inl fb9))]) [2, 3] (by decide) rfl
    have hKc := hK.sub (tys' := [(cb9, .byte)]) [1] rfl
    have hFc := va_free (wc := [(t9, .inr (0, [.ref b9, .int 0, .int 0, .int 0])), (b9, .inl (cb9, 4, .inl fb9))]) hD hS hA [2, 3] rfl
    refine va_calli (va_runV (As := []) (rest := [.ref h0]) ⟨hx, hb, hml, hown, hts⟩ (kJ0_length_8abf5_6 l dC dI g H.size t9 b9 (.int 0) (.int 0) cb9 fb9 hb9 ) (cwV 0 hts (ns_gp (List.forall_mem_cons.mpr ⟨wm646, (List.forall_mem_cons.mpr ⟨wm595, (List.forall_mem_cons.mpr ⟨wm596, (List.forall_mem_cons.mpr ⟨wm316, (fun _ h9 => nomatch h9)⟩)⟩)⟩)⟩) wm574) rfl rfl rfl (by decide +kernel) ⟨Nat.le_of_ble_eq_true rfl, Nat.le_of_ble_eq_true rfl⟩) ⟨fun a U gg mk q => by obtain ⟨q0, q1, qP, qK, qD, qF⟩ := q; exact ⟨q0, q1, qP, va_K.moved (u := U) (U := U.calling gg mk a) (Vm.Alike.refl U.vm) qK, qD, ns_same qF⟩, va_recv hK hP (ci := 0) (q0 := 2) rfl rfl, fun U hU hW => ⟨rfl, by rw [hU], by rw [hU]; exact hPc, va_K.moved hW.alike hKc, hDc.weaken (fun _ _ _ _ => trivial), ns_call hF hS hFc hU hW⟩⟩ rfl rfl hl.1 rfl (lv_room (Nat.le_of_ble_eq_true rfl)) dX16_say_145 ⟨Nat.le_of_ble_eq_true rfl, Nat.le_of_ble_eq_true rfl⟩) hS (fun q _ h => hFc q h) hFc (fun r9 u t H1 locs ht hvm hw hB hz1 hk1 hS => ?_)
    obtain rfl := hw.symm
    obtain ⟨hP1, hK1, hD1⟩ := hB
    rw [ht] at hP1
    have hK1 := va_K.moved hvm.symm hK1
    obtain ⟨hP, hD⟩ := va_join (wr := [(h0, .inr (23, [.int 0, v1, v2, v3, .ref (g 34), v4, v5, v6, v7])), (q1, .inl (cyq1, 6, .inl (upd (upd (upd (upd (upd (upd (fun _ => 0) 0 x0) 1 x1) 2 x2) 3 x3) 4 x4) 5 x5)))]) (w1 := [(b9, .inl (cb9, 4, .inl fb9)), (t9, .inr (0, [.ref b9, .int 0, .int 0, .int 0]))]) hP hD [2, 3] [0, 1] rfl rfl (by decide) (by decide) hk1 hFc hP1 hD1
    have hK := (hK.sub (tys' := [(cyq1, .int)]) [0] rfl).app hK1
    generalize H1 = H at hP hS ⊢
    have hP : va_P (dC, dI) vwCl [(h0, .inr (23, [.int 0, v1, v2, v3, .ref (g 34), v4, v5, v6, v7])), (q1, .inl (cyq1, 6, .inl (upd (upd (upd (upd (upd (upd (fun _ => 0) 0 x0) 1 x1) 2 x2) 3 x3) 4 x4) 5 x5))), (b9, .inl (cb9, 4, .inl fb9)), (t9, .inr (0, [.ref b9, .int 0, .int 0, .int 0]))] H := hP
    have hD : va_D A [(h0, .inr (23, [.int 0, v1, v2, v3, .ref (g 34), v4, v5, v6, v7])), (q1, .inl (cyq1, 6, .inl (upd (upd (upd (upd (upd (upd (fun _ => 0) 0 x0) 1 x1) 2 x2) 3 x3) 4 x4) 5 x5))), (b9, .inl (cb9, 4, .inl fb9)), (t9, .inr (0, [.ref b9, .int 0, .int 0, .int 0]))] := hD
    have hK : va_K (dC, dI) vwCl [(cyq1, .int), (cb9, .byte)] s := hK
    refine W.widen (k := 25) (n := 166) (Nat.le_of_ble_eq_true rfl) (Nat.le_of_ble_eq_true rfl) ?_
    refine lv_bipush (v := 60) hx hb dX16_say_148 (by decide) ?_
    refine lv_icmp_le (tgt := 157) hx hb dX16_say_150 (by decide) (fun c1003 => ?_) (fun c1003 => absurd (by decide) c1003)
    refine lv_iconst (v := 0) hx hb dX16_say_157 (by decide) ?_
    refine lv_iconst (v := 2) hx hb dX16_say_158 (by decide) ?_
    have hPc := hP.sub (ws' := [(h0, .inr (23, [.int 0, v1, v2, v3, .ref (g 34), v4, v5, v6, v7]))]) [0] rfl
    have hDc := hD.sub (ws' := [(h0, .inr (23, [.int 0, v1, v2, v3, .ref (g 34), v4, v5, v6, v7]))]) [0] (by decide) rfl
    have hKc := hK.sub (tys' := []) [] rfl
    have hFc := va_free (wc := [(h0, .inr (23, [.int 0, v1, v2, v3, .ref (g 34), v4, v5, v6, v7]))]) hD hS hA [0] rfl
    refine va_calli (va_runV (As := [.int 0, .int 2]) (rest := []) ⟨hx, hb, hml, hown, hts⟩ (kX16_refuse_3 l dC dI g H.size h0 v1 v2 v3 (.ref (g 34)) v4 v5 v6 v7 ) (cwV 2 hts (ns_gp (List.forall_mem_cons.mpr ⟨wm236, (List.forall_mem_cons.mpr ⟨wm237, (List.forall_mem_cons.mpr ⟨wm238, (List.forall_mem_cons.mpr ⟨wm192, (fun _ h9 => nomatch h9)⟩)⟩)⟩)⟩) wm235) rfl rfl rfl (by decide +kernel) ⟨Nat.le_of_ble_eq_true rfl, Nat.le_of_ble_eq_true rfl⟩) ⟨fun a U gg mk q => by obtain ⟨q0, q1, qP, qK, qD, qF⟩ := q; exact ⟨q0, q1, qP, va_K.moved (u := U) (U := U.calling gg mk a) (Vm.Alike.refl U.vm) qK, qD, ns_same qF⟩, va_recv hK hP (ci := 23) (q0 := 0) rfl rfl, fun U hU hW => ⟨rfl, by rw [hU], by rw [hU]; exact hPc, va_K.moved hW.alike hKc, hDc.weaken (fun _ _ _ _ => trivial), ns_call hF hS hFc hU hW⟩⟩ rfl rfl hl.1 rfl (lv_room (Nat.le_of_ble_eq_true rfl)) dX16_say_159 ⟨Nat.le_of_ble_eq_true rfl, Nat.le_of_ble_eq_true rfl⟩) hS (fun q _ h => hFc q h) hFc (fun r9 u t H1 locs ht hvm hw hB hz1 hk1 hS => ?_)
    obtain rfl := hw.symm
    obtain ⟨hP1, hK1, hD1⟩ := hB
    rw [ht] at hP1
    have hK1 := va_K.moved hvm.symm hK1
    obtain ⟨hP, hD⟩ := va_join (wr := [(q1, .inl (cyq1, 6, .inl (upd (upd (upd (upd (upd (upd (fun _ => 0) 0 x0) 1 x1) 2 x2) 3 x3) 4 x4) 5 x5))), (b9, .inl (cb9, 4, .inl fb9)), (t9, .inr (0, [.ref b9, .int 0, .int 0, .int 0]))]) (w1 := [(h0, .inr (23, [.int 0, v1, v2, v3, .ref (g 34), v4, v5, v6, v7]))]) hP hD [0] [1, 2, 3] rfl rfl (by decide) (by decide) hk1 hFc hP1 hD1
    have hK := (hK.sub (tys' := [(cyq1, .int), (cb9, .byte)]) [0, 1] rfl).app hK1
    generalize H1 = H at hP hS ⊢
    have hP : va_P (dC, dI) vwCl [(q1, .inl (cyq1, 6, .inl (upd (upd (upd (upd (upd (upd (fun _ => 0) 0 x0) 1 x1) 2 x2) 3 x3) 4 x4) 5 x5))), (b9, .inl (cb9, 4, .inl fb9)), (t9, .inr (0, [.ref b9, .int 0, .int 0, .int 0])), (h0, .inr (23, [.int 0, v1, v2, v3, .ref (g 34), v4, v5, v6, v7]))] H := hP
    have hD : va_D A [(q1, .inl (cyq1, 6, .inl (upd (upd (upd (upd (upd (upd (fun _ => 0) 0 x0) 1 x1) 2 x2) 3 x3) 4 x4) 5 x5))), (b9, .inl (cb9, 4, .inl fb9)), (t9, .inr (0, [.ref b9, .int 0, .int 0, .int 0])), (h0, .inr (23, [.int 0, v1, v2, v3, .ref (g 34), v4, v5, v6, v7]))] := hD
    have hK : va_K (dC, dI) vwCl [(cyq1, .int), (cb9, .byte)] s := hK
    refine W.widen (k := 25) (n := 166) (Nat.le_of_ble_eq_true rfl) (Nat.le_of_ble_eq_true rfl) ?_
    refine lv_if_eq (tgt := 167) hx hb dX16_say_162 (by decide) (fun c1004 => ?_) (fun c1004 => absurd (by decide) c1004)
    refine lv_iinc (v := 5) (lv' := [(12, .int 5), (9, .ref t9), (13, .int x4), (11, .int 6), (10, .ref q1), (0, .ref h0)]) hx hb dX16_say_167 hl (k := 2) rfl (by decide) (by decide) rfl (fun ls hl => ?_)
    refine lv_goto (tgt := 119) hx hb dX16_say_170 (by decide) ?_
    have hP := hP.sub (ws' := [(h0, .inr (23, [.int 0, v1, v2, v3, .ref (g 34), v4, v5, v6, v7])), (q1, .inl (cyq1, 6, .inl (upd (upd (upd (upd (upd (upd (fun _ => 0) 0 x0) 1 x1) 2 x2) 3 x3) 4 x4) 5 x5))), (t9, .inr (0, [.ref b9, .int 0, .int 0, .int 0])), (b9, .inl (cb9, 4, .inl fb9))]) [3, 0, 2, 1] rfl
    have hD := hD.sub (ws' := [(h0, .inr (23, [.int 0, v1, v2, v3, .ref (g 34), v4, v5, v6, v7])), (q1, .inl (cyq1, 6, .inl (upd (upd (upd (upd (upd (upd (fun _ => 0) 0 x0) 1 x1) 2 x2) 3 x3) 4 x4) 5 x5))), (t9, .inr (0, [.ref b9, .int 0, .int 0, .int 0])), (b9, .inl (cb9, 4, .inl fb9))]) [3, 0, 2, 1] (by decide) rfl
    have hK := hK.sub (tys' := [(cyq1, .int), (cb9, .byte)]) [0, 1] rfl
    have hl := lv_sub hl (l' := [(12, .int 5), (11, .int 6), (10, .ref q1), (9, .ref t9), (0, .ref h0)]) [0, 3, 4, 1, 5] rfl
    refine W.widen (k := 31) (n := 206) (Nat.le_of_ble_eq_true rfl) (Nat.le_of_ble_eq_true rfl) ?_
    have hE2 : ns_len E9 x4 = 4 := by rw [hE]; exact ns_lenA x4 4 (by omega)
    exact ns_say_5_4 hb9 hE2 ex0 ex1 ex2 ex3 ex4 ex5 hx hb hml hown hts hA hF hK hP hD hS hl k09 k19 k29 k39 k49 k59 k69
  · have _h9 := 0
    refine lv_aload hx hb dX16_say_133 (lv_at hl 4 rfl) ?_
    refine lv_iload hx hb dX16_say_135 (lv_at hl 0 rfl) ?_
    have hPc := hP.sub (ws' := [(t9, .inr (0, [.ref b9, .int 0, .int 0, .int 0])), (b9, .inl (cb9, 4, .inl fb9))]) [2, 3] rfl
    have hDc := hD.sub (ws' := [(t9, .inr (0, [.ref b9, .int 0, .int 0, .int 0])), (b9, .inl (cb9, 4, .inl fb9))]) [2, 3] (by decide) rfl
    have hKc := hK.sub (tys' := [(cb9, .byte)]) [1] rfl
    have hFc := va_free (wc := [(t9, .inr (0, [.ref b9, .int 0, .int 0, .int 0])), (b9, .inl (cb9, 4, .inl fb9))]) hD hS hA [2, 3] rfl
    refine va_callr (va_runS (As := [.ref t9, .int x4]) (rest := []) ⟨hx, hb, hml, hown, hts⟩ (kX16_said_13 l dC dI g H.size t9 x4 b9 (.int 0) (.int 0) cb9 fb9 hb9 ⟨by omega, by omega⟩) (va_cwS 2 hts (ns_gp (List.forall_mem_cons.mpr ⟨wm655, (List.forall_mem_cons.mpr ⟨wm656, (List.forall_mem_cons.mpr ⟨wm192, (fun _ h9 => nomatch h9)⟩)⟩)⟩) wm604) rfl rfl rfl (by decide +kernel) ⟨Nat.le_of_ble_eq_true rfl, Nat.le_of_ble_eq_true rfl⟩) ⟨fun a U gg mk q => by obtain ⟨q0, q1, qP, qK, qD, qF⟩ := q; exact ⟨q0, q1, qP, va_K.moved (u := U) (U := U.calling gg mk a) (Vm.Alike.refl U.vm) qK, qD, ns_same qF⟩, fun U hU hW => ⟨rfl, by rw [hU], by rw [hU]; exact hPc, va_K.moved hW.alike hKc, hDc.weaken (fun _ _ _ _ => trivial), ns_call hF hS hFc hU hW⟩⟩ rfl rfl hl.1 rfl (lv_room (Nat.le_of_ble_eq_true rfl)) dX16_say_137 ⟨Nat.le_of_ble_eq_true rfl, Nat.le_of_ble_eq_true rfl⟩) hS (fun q _ h => hFc q h) hFc (fun u r9 t H1 locs ht hvm hw hB hz1 hk1 hS => ?_)
    obtain ⟨q1005, q1006, cy1007, q1008, q1009, cy1010, hr9, hP1, hK1, hD1⟩ := hB
    obtain rfl := hr9.symm
    rw [ht] at hP1
    have hK1 := va_K.moved hvm.symm hK1
    obtain ⟨hP, hD⟩ := va_join (wr := [(h0, .inr (23, [.int 0, v1, v2, v3, .ref (g 34), v4, v5, v6, v7])), (q1, .inl (cyq1, 6, .inl (upd (upd (upd (upd (upd (upd (fun _ => 0) 0 x0) 1 x1) 2 x2) 3 x3) 4 x4) 5 x5)))]) (w1 := [(b9, .inl (cb9, 4, .inl fb9)), (t9, .inr (0, [.ref b9, .int 0, .int 0, .int 0])), (q1008, .inr (0, [.ref q1009, .int 0, .int 0, .int 0])), (q1005, .inr (1, [.ref q1006, .int 0, .int 0, .int 5])), (q1006, .inl (cy1007, 16, .inl (upd ((va_cpy (fb9) ((fun _ => 0)) 0 0 4)) 4 (vp_nar .byte (ns_ch x4).toInt8.toInt32)))), (q1009, .inl (cy1010, 5, .inl (va_cpy ((upd ((va_cpy (fb9) ((fun _ => 0)) 0 0 4)) 4 (vp_nar .byte (ns_ch x4).toInt8.toInt32))) (fun _ => 0) 0 0 5)))]) hP hD [2, 3] [0, 1] rfl rfl (by decide) (by decide) hk1 hFc hP1 hD1
    have hK := (hK.sub (tys' := [(cyq1, .int)]) [0] rfl).app hK1
    generalize H1 = H at hP hS ⊢
    have hP : va_P (dC, dI) vwCl [(h0, .inr (23, [.int 0, v1, v2, v3, .ref (g 34), v4, v5, v6, v7])), (q1, .inl (cyq1, 6, .inl (upd (upd (upd (upd (upd (upd (fun _ => 0) 0 x0) 1 x1) 2 x2) 3 x3) 4 x4) 5 x5))), (b9, .inl (cb9, 4, .inl fb9)), (t9, .inr (0, [.ref b9, .int 0, .int 0, .int 0])), (q1008, .inr (0, [.ref q1009, .int 0, .int 0, .int 0])), (q1005, .inr (1, [.ref q1006, .int 0, .int 0, .int 5])), (q1006, .inl (cy1007, 16, .inl (upd ((va_cpy (fb9) ((fun _ => 0)) 0 0 4)) 4 (vp_nar .byte (ns_ch x4).toInt8.toInt32)))), (q1009, .inl (cy1010, 5, .inl (va_cpy ((upd ((va_cpy (fb9) ((fun _ => 0)) 0 0 4)) 4 (vp_nar .byte (ns_ch x4).toInt8.toInt32))) (fun _ => 0) 0 0 5)))] H := hP
    have hD : va_D A [(h0, .inr (23, [.int 0, v1, v2, v3, .ref (g 34), v4, v5, v6, v7])), (q1, .inl (cyq1, 6, .inl (upd (upd (upd (upd (upd (upd (fun _ => 0) 0 x0) 1 x1) 2 x2) 3 x3) 4 x4) 5 x5))), (b9, .inl (cb9, 4, .inl fb9)), (t9, .inr (0, [.ref b9, .int 0, .int 0, .int 0])), (q1008, .inr (0, [.ref q1009, .int 0, .int 0, .int 0])), (q1005, .inr (1, [.ref q1006, .int 0, .int 0, .int 5])), (q1006, .inl (cy1007, 16, .inl (upd ((va_cpy (fb9) ((fun _ => 0)) 0 0 4)) 4 (vp_nar .byte (ns_ch x4).toInt8.toInt32)))), (q1009, .inl (cy1010, 5, .inl (va_cpy ((upd ((va_cpy (fb9) ((fun _ => 0)) 0 0 4)) 4 (vp_nar .byte (ns_ch x4).toInt8.toInt32))) (fun _ => 0) 0 0 5)))] := hD
    have hK : va_K (dC, dI) vwCl [(cyq1, .int), (cb9, .byte), (cy1007, .byte), (cy1010, .byte)] s := hK
    refine W.widen (k := 29) (n := 195) (Nat.le_of_ble_eq_true rfl) (Nat.le_of_ble_eq_true rfl) ?_
    refine lv_astore (lv' := [(9, .ref q1008), (13, .int x4), (12, .int 4), (11, .int 6), (10, .ref q1), (0, .ref h0)]) hx hb dX16_say_140 hl (by decide) rfl (fun ls hl => ?_)
    refine lv_aload_n hx hb dX16_say_142 rfl (lv_at hl 5 rfl) ?_
    refine lv_aload hx hb dX16_say_143 (lv_at hl 0 rfl) ?_
    have hPc := hP.sub (ws' := [(q1008, .inr (0, [.ref q1009, .int 0, .int 0, .int 0])), (q1009, .inl (cy1010, 5, .inl (va_cpy ((upd ((va_cpy (fb9) ((fun _ => 0)) 0 0 4)) 4 (vp_nar .byte (ns_ch x4).toInt8.toInt32))) (fun _ => 0) 0 0 5)))]) [4, 7] rfl
    have hDc := hD.sub (ws' := [(q1008, .inr (0, [.ref q1009, .int 0, .int 0, .int 0])), (q1009, .inl (cy1010, 5, .inl (va_cpy ((upd ((va_cpy (fb9) ((fun _ => 0)) 0 0 4)) 4 (vp_nar .byte (ns_ch x4).toInt8.toInt32))) (fun _ => 0) 0 0 5)))]) [4, 7] (by decide) rfl
    have hKc := hK.sub (tys' := [(cy1010, .byte)]) [3] rfl
    have hFc := va_free (wc := [(q1008, .inr (0, [.ref q1009, .int 0, .int 0, .int 0])), (q1009, .inl (cy1010, 5, .inl (va_cpy ((upd ((va_cpy (fb9) ((fun _ => 0)) 0 0 4)) 4 (vp_nar .byte (ns_ch x4).toInt8.toInt32))) (fun _ => 0) 0 0 5)))]) hD hS hA [4, 7] rfl
    refine va_calli (va_runV (As := []) (rest := [.ref h0]) ⟨hx, hb, hml, hown, hts⟩ (kJ0_length_8abf5_7 l dC dI g H.size q1008 q1009 (.int 0) (.int 0) cy1010 (va_cpy ((upd ((va_cpy (fb9) ((fun _ => 0)) 0 0 4)) 4 (vp_nar .byte (ns_ch x4).toInt8.toInt32))) (fun _ => 0) 0 0 5) (sb_fitC (sb_fitU (sb_fitC hb9 sb_fit0) (pk_fb _)) sb_fit0) ) (cwV 0 hts (ns_gp (List.forall_mem_cons.mpr ⟨wm646, (List.forall_mem_cons.mpr ⟨wm595, (List.forall_mem_cons.mpr ⟨wm596, (List.forall_mem_cons.mpr ⟨wm316, (fun _ h9 => nomatch h9)⟩)⟩)⟩)⟩) wm574) rfl rfl rfl (by decide +kernel) ⟨Nat.le_of_ble_eq_true rfl, Nat.le_of_ble_eq_true rfl⟩) ⟨fun a U gg mk q => by obtain ⟨q0, q1, qP, qK, qD, qF⟩ := q; exact ⟨q0, q1, qP, va_K.moved (u := U) (U := U.calling gg mk a) (Vm.Alike.refl U.vm) qK, qD, ns_same qF⟩, va_recv hK hP (ci := 0) (q0 := 4) rfl rfl, fun U hU hW => ⟨rfl, by rw [hU], by rw [hU]; exact hPc, va_K.moved hW.alike hKc, hDc.weaken (fun _ _ _ _ => trivial), ns_call hF hS hFc hU hW⟩⟩ rfl rfl hl.1 rfl (lv_room (Nat.le_of_ble_eq_true rfl)) dX16_say_145 ⟨Nat.le_of_ble_eq_true rfl, Nat.le_of_ble_eq_true rfl⟩) hS (fun q _ h => hFc q h) hFc (fun r9 u t H1 locs ht hvm hw hB hz1 hk1 hS => ?_)
    obtain rfl := hw.symm
    obtain ⟨hP1, hK1, hD1⟩ := hB
    rw [ht] at hP1
    have hK1 := va_K.moved hvm.symm hK1
    obtain ⟨hP, hD⟩ := va_join (wr := [(h0, .inr (23, [.int 0, v1, v2, v3, .ref (g 34), v4, v5, v6, v7])), (q1, .inl (cyq1, 6, .inl (upd (upd (upd (upd (upd (upd (fun _ => 0) 0 x0) 1 x1) 2 x2) 3 x3) 4 x4) 5 x5))), (b9, .inl (cb9, 4, .inl fb9)), (t9, .inr (0, [.ref b9, .int 0, .int 0, .int 0])), (q1005, .inr (1, [.ref q1006, .int 0, .int 0, .int 5])), (q1006, .inl (cy1007, 16, .inl (upd ((va_cpy (fb9) ((fun _ => 0)) 0 0 4)) 4 (vp_nar .byte (ns_ch x4).toInt8.toInt32))))]) (w1 := [(q1009, .inl (cy1010, 5, .inl (va_cpy ((upd ((va_cpy (fb9) ((fun _ => 0)) 0 0 4)) 4 (vp_nar .byte (ns_ch x4).toInt8.toInt32))) (fun _ => 0) 0 0 5))), (q1008, .inr (0, [.ref q1009, .int 0, .int 0, .int 0]))]) hP hD [4, 7] [0, 1, 2, 3, 5, 6] rfl rfl (by decide) (by decide) hk1 hFc hP1 hD1
    have hK := (hK.sub (tys' := [(cyq1, .int), (cb9, .byte), (cy1007, .byte)]) [0, 1, 2] rfl).app hK1
    generalize H1 = H at hP hS ⊢
    have hP : va_P (dC, dI) vwCl [(h0, .inr (23, [.int 0, v1, v2, v3, .ref (g 34), v4, v5, v6, v7])), (q1, .inl (cyq1, 6, .inl (upd (upd (upd (upd (upd (upd (fun _ => 0) 0 x0) 1 x1) 2 x2) 3 x3) 4 x4) 5 x5))), (b9, .inl (cb9, 4, .inl fb9)), (t9, .inr (0, [.ref b9, .int 0, .int 0, .int 0])), (q1005, .inr (1, [.ref q1006, .int 0, .int 0, .int 5])), (q1006, .inl (cy1007, 16, .inl (upd ((va_cpy (fb9) ((fun _ => 0)) 0 0 4)) 4 (vp_nar .byte (ns_ch x4).toInt8.toInt32)))), (q1009, .inl (cy1010, 5, .inl (va_cpy ((upd ((va_cpy (fb9) ((fun _ => 0)) 0 0 4)) 4 (vp_nar .byte (ns_ch x4).toInt8.toInt32))) (fun _ => 0) 0 0 5))), (q1008, .inr (0, [.ref q1009, .int 0, .int 0, .int 0]))] H := hP
    have hD : va_D A [(h0, .inr (23, [.int 0, v1, v2, v3, .ref (g 34), v4, v5, v6, v7])), (q1, .inl (cyq1, 6, .inl (upd (upd (upd (upd (upd (upd (fun _ => 0) 0 x0) 1 x1) 2 x2) 3 x3) 4 x4) 5 x5))), (b9, .inl (cb9, 4, .inl fb9)), (t9, .inr (0, [.ref b9, .int 0, .int 0, .int 0])), (q1005, .inr (1, [.ref q1006, .int 0, .int 0, .int 5])), (q1006, .inl (cy1007, 16, .inl (upd ((va_cpy (fb9) ((fun _ => 0)) 0 0 4)) 4 (vp_nar .byte (ns_ch x4).toInt8.toInt32)))), (q1009, .inl (cy1010, 5, .inl (va_cpy ((upd ((va_cpy (fb9) ((fun _ => 0)) 0 0 4)) 4 (vp_nar .byte (ns_ch x4).toInt8.toInt32))) (fun _ => 0) 0 0 5))), (q1008, .inr (0, [.ref q1009, .int 0, .int 0, .int 0]))] := hD
    have hK : va_K (dC, dI) vwCl [(cyq1, .int), (cb9, .byte), (cy1007, .byte), (cy1010, .byte)] s := hK
    refine W.widen (k := 29) (n := 195) (Nat.le_of_ble_eq_true rfl) (Nat.le_of_ble_eq_true rfl) ?_
    refine lv_bipush (v := 60) hx hb dX16_say_148 (by decide) ?_
    refine lv_icmp_le (tgt := 157) hx hb dX16_say_150 (by decide) (fun c1011 => ?_) (fun c1011 => absurd (by decide) c1011)
    refine lv_iconst (v := 0) hx hb dX16_say_157 (by decide) ?_
    refine lv_iconst (v := 2) hx hb dX16_say_158 (by decide) ?_
    have hPc := hP.sub (ws' := [(h0, .inr (23, [.int 0, v1, v2, v3, .ref (g 34), v4, v5, v6, v7]))]) [0] rfl
    have hDc := hD.sub (ws' := [(h0, .inr (23, [.int 0, v1, v2, v3, .ref (g 34), v4, v5, v6, v7]))]) [0] (by decide) rfl
    have hKc := hK.sub (tys' := []) [] rfl
    have hFc := va_free (wc := [(h0, .inr (23, [.int 0, v1, v2, v3, .ref (g 34), v4, v5, v6, v7]))]) hD hS hA [0] rfl
    refine va_calli (va_runV (As := [.int 0, .int 2]) (rest := []) ⟨hx, hb, hml, hown, hts⟩ (kX16_refuse_3 l dC dI g H.size h0 v1 v2 v3 (.ref (g 34)) v4 v5 v6 v7 ) (cwV 2 hts (ns_gp (List.forall_mem_cons.mpr ⟨wm236, (List.forall_mem_cons.mpr ⟨wm237, (List.forall_mem_cons.mpr ⟨wm238, (List.forall_mem_cons.mpr ⟨wm192, (fun _ h9 => nomatch h9)⟩)⟩)⟩)⟩) wm235) rfl rfl rfl (by decide +kernel) ⟨Nat.le_of_ble_eq_true rfl, Nat.le_of_ble_eq_true rfl⟩) ⟨fun a U gg mk q => by obtain ⟨q0, q1, qP, qK, qD, qF⟩ := q; exact ⟨q0, q1, qP, va_K.moved (u := U) (U := U.calling gg mk a) (Vm.Alike.refl U.vm) qK, qD, ns_same qF⟩, va_recv hK hP (ci := 23) (q0 := 0) rfl rfl, fun U hU hW => ⟨rfl, by rw [hU], by rw [hU]; exact hPc, va_K.moved hW.alike hKc, hDc.weaken (fun _ _ _ _ => trivial), ns_call hF hS hFc hU hW⟩⟩ rfl rfl hl.1 rfl (lv_room (Nat.le_of_ble_eq_true rfl)) dX16_say_159 ⟨Nat.le_of_ble_eq_true rfl, Nat.le_of_ble_eq_true rfl⟩) hS (fun q _ h => hFc q h) hFc (fun r9 u t H1 locs ht hvm hw hB hz1 hk1 hS => ?_)
    obtain rfl := hw.symm
    obtain ⟨hP1, hK1, hD1⟩ := hB
    rw [ht] at hP1
    have hK1 := va_K.moved hvm.symm hK1
    obtain ⟨hP, hD⟩ := va_join (wr := [(q1, .inl (cyq1, 6, .inl (upd (upd (upd (upd (upd (upd (fun _ => 0) 0 x0) 1 x1) 2 x2) 3 x3) 4 x4) 5 x5))), (b9, .inl (cb9, 4, .inl fb9)), (t9, .inr (0, [.ref b9, .int 0, .int 0, .int 0])), (q1005, .inr (1, [.ref q1006, .int 0, .int 0, .int 5])), (q1006, .inl (cy1007, 16, .inl (upd ((va_cpy (fb9) ((fun _ => 0)) 0 0 4)) 4 (vp_nar .byte (ns_ch x4).toInt8.toInt32)))), (q1009, .inl (cy1010, 5, .inl (va_cpy ((upd ((va_cpy (fb9) ((fun _ => 0)) 0 0 4)) 4 (vp_nar .byte (ns_ch x4).toInt8.toInt32))) (fun _ => 0) 0 0 5))), (q1008, .inr (0, [.ref q1009, .int 0, .int 0, .int 0]))]) (w1 := [(h0, .inr (23, [.int 0, v1, v2, v3, .ref (g 34), v4, v5, v6, v7]))]) hP hD [0] [1, 2, 3, 4, 5, 6, 7] rfl rfl (by decide) (by decide) hk1 hFc hP1 hD1
    have hK := (hK.sub (tys' := [(cyq1, .int), (cb9, .byte), (cy1007, .byte), (cy1010, .byte)]) [0, 1, 2, 3] rfl).app hK1
    generalize H1 = H at hP hS ⊢
    have hP : va_P (dC, dI) vwCl [(q1, .inl (cyq1, 6, .inl (upd (upd (upd (upd (upd (upd (fun _ => 0) 0 x0) 1 x1) 2 x2) 3 x3) 4 x4) 5 x5))), (b9, .inl (cb9, 4, .inl fb9)), (t9, .inr (0, [.ref b9, .int 0, .int 0, .int 0])), (q1005, .inr (1, [.ref q1006, .int 0, .int 0, .int 5])), (q1006, .inl (cy1007, 16, .inl (upd ((va_cpy (fb9) ((fun _ => 0)) 0 0 4)) 4 (vp_nar .byte (ns_ch x4).toInt8.toInt32)))), (q1009, .inl (cy1010, 5, .inl (va_cpy ((upd ((va_cpy (fb9) ((fun _ => 0)) 0 0 4)) 4 (vp_nar .byte (ns_ch x4).toInt8.toInt32))) (fun _ => 0) 0 0 5))), (q1008, .inr (0, [.ref q1009, .int 0, .int 0, .int 0])), (h0, .inr (23, [.int 0, v1, v2, v3, .ref (g 34), v4, v5, v6, v7]))] H := hP
    have hD : va_D A [(q1, .inl (cyq1, 6, .inl (upd (upd (upd (upd (upd (upd (fun _ => 0) 0 x0) 1 x1) 2 x2) 3 x3) 4 x4) 5 x5))), (b9, .inl (cb9, 4, .inl fb9)), (t9, .inr (0, [.ref b9, .int 0, .int 0, .int 0])), (q1005, .inr (1, [.ref q1006, .int 0, .int 0, .int 5])), (q1006, .inl (cy1007, 16, .inl (upd ((va_cpy (fb9) ((fun _ => 0)) 0 0 4)) 4 (vp_nar .byte (ns_ch x4).toInt8.toInt32)))), (q1009, .inl (cy1010, 5, .inl (va_cpy ((upd ((va_cpy (fb9) ((fun _ => 0)) 0 0 4)) 4 (vp_nar .byte (ns_ch x4).toInt8.toInt32))) (fun _ => 0) 0 0 5))), (q1008, .inr (0, [.ref q1009, .int 0, .int 0, .int 0])), (h0, .inr (23, [.int 0, v1, v2, v3, .ref (g 34), v4, v5, v6, v7]))] := hD
    have hK : va_K (dC, dI) vwCl [(cyq1, .int), (cb9, .byte), (cy1007, .byte), (cy1010, .byte)] s := hK
    refine W.widen (k := 29) (n := 195) (Nat.le_of_ble_eq_true rfl) (Nat.le_of_ble_eq_true rfl) ?_
    refine lv_if_eq (tgt := 167) hx hb dX16_say_162 (by decide) (fun c1012 => ?_) (fun c1012 => absurd (by decide) c1012)
    refine lv_iinc (v := 5) (lv' := [(12, .int 5), (9, .ref q1008), (13, .int x4), (11, .int 6), (10, .ref q1), (0, .ref h0)]) hx hb dX16_say_167 hl (k := 2) rfl (by decide) (by decide) rfl (fun ls hl => ?_)
    refine lv_goto (tgt := 119) hx hb dX16_say_170 (by decide) ?_
    have hP := hP.sub (ws' := [(h0, .inr (23, [.int 0, v1, v2, v3, .ref (g 34), v4, v5, v6, v7])), (q1, .inl (cyq1, 6, .inl (upd (upd (upd (upd (upd (upd (fun _ => 0) 0 x0) 1 x1) 2 x2) 3 x3) 4 x4) 5 x5))), (q1008, .inr (0, [.ref q1009, .int 0, .int 0, .int 0])), (q1009, .inl (cy1010, 5, .inl (va_cpy ((upd ((va_cpy (fb9) ((fun _ => 0)) 0 0 4)) 4 (vp_nar .byte (ns_ch x4).toInt8.toInt32))) (fun _ => 0) 0 0 5)))]) [7, 0, 6, 5] rfl
    have hD := hD.sub (ws' := [(h0, .inr (23, [.int 0, v1, v2, v3, .ref (g 34), v4, v5, v6, v7])), (q1, .inl (cyq1, 6, .inl (upd (upd (upd (upd (upd (upd (fun _ => 0) 0 x0) 1 x1) 2 x2) 3 x3) 4 x4) 5 x5))), (q1008, .inr (0, [.ref q1009, .int 0, .int 0, .int 0])), (q1009, .inl (cy1010, 5, .inl (va_cpy ((upd ((va_cpy (fb9) ((fun _ => 0)) 0 0 4)) 4 (vp_nar .byte (ns_ch x4).toInt8.toInt32))) (fun _ => 0) 0 0 5)))]) [7, 0, 6, 5] (by decide) rfl
    have hK := hK.sub (tys' := [(cyq1, .int), (cy1010, .byte)]) [0, 3] rfl
    have hl := lv_sub hl (l' := [(12, .int 5), (11, .int 6), (10, .ref q1), (9, .ref q1008), (0, .ref h0)]) [0, 3, 4, 1, 5] rfl
    refine W.widen (k := 31) (n := 206) (Nat.le_of_ble_eq_true rfl) (Nat.le_of_ble_eq_true rfl) ?_
    have hE2 : ns_len E9 x4 = 5 := by rw [hE]; exact (ns_lenB x4 4 (by omega) (by omega)).trans (by decide)
    exact ns_say_5_5 (sb_fitC (sb_fitU (sb_fitC hb9 sb_fit0) (pk_fb _)) sb_fit0) hE2 ex0 ex1 ex2 ex3 ex4 ex5 hx hb hml hown hts hA hF hK hP hD hS hl k09 k19 k29 k39 k49 k59 k69
  · have _h9 := 0
    refine lv_aload hx hb dX16_say_133 (lv_at hl 4 rfl) ?_
    refine lv_iload hx hb dX16_say_135 (lv_at hl 0 rfl) ?_
    have hPc := hP.sub (ws' := [(t9, .inr (0, [.ref b9, .int 0, .int 0, .int 0])), (b9, .inl (cb9, 4, .inl fb9))]) [2, 3] rfl
    have hDc := hD.sub (ws' := [(t9, .inr (0, [.ref b9, .int 0, .int 0, .int 0])), (b9, .inl (cb9, 4, .inl fb9))]) [2, 3] (by decide) rfl
    have hKc := hK.sub (tys' := [(cb9, .byte)]) [1] rfl
    have hFc := va_free (wc := [(t9, .inr (0, [.ref b9, .int 0, .int 0, .int 0])), (b9, .inl (cb9, 4, .inl fb9))]) hD hS hA [2, 3] rfl
    refine va_callr (va_runS (As := [.ref t9, .int x4]) (rest := []) ⟨hx, hb, hml, hown, hts⟩ (kX16_said_14 l dC dI g H.size t9 x4 b9 (.int 0) (.int 0) cb9 fb9 hb9 ⟨by omega, by omega⟩) (va_cwS 2 hts (ns_gp (List.forall_mem_cons.mpr ⟨wm655, (List.forall_mem_cons.mpr ⟨wm656, (List.forall_mem_cons.mpr ⟨wm192, (fun _ h9 => nomatch h9)⟩)⟩)⟩) wm604) rfl rfl rfl (by decide +kernel) ⟨Nat.le_of_ble_eq_true rfl, Nat.le_of_ble_eq_true rfl⟩) ⟨fun a U gg mk q => by obtain ⟨q0, q1, qP, qK, qD, qF⟩ := q; exact ⟨q0, q1, qP, va_K.moved (u := U) (U := U.calling gg mk a) (Vm.Alike.refl U.vm) qK, qD, ns_same qF⟩, fun U hU hW => ⟨rfl, by rw [hU], by rw [hU]; exact hPc, va_K.moved hW.alike hKc, hDc.weaken (fun _ _ _ _ => trivial), ns_call hF hS hFc hU hW⟩⟩ rfl rfl hl.1 rfl (lv_room (Nat.le_of_ble_eq_true rfl)) dX16_say_137 ⟨Nat.le_of_ble_eq_true rfl, Nat.le_of_ble_eq_true rfl⟩) hS (fun q _ h => hFc q h) hFc (fun u r9 t H1 locs ht hvm hw hB hz1 hk1 hS => ?_)
    obtain ⟨q1013, q1014, cy1015, hr9, hP1, hK1, hD1⟩ := hB
    obtain rfl := hr9.symm
    rw [ht] at hP1
    have hK1 := va_K.moved hvm.symm hK1
    obtain ⟨hP, hD⟩ := va_join (wr := [(h0, .inr (23, [.int 0, v1, v2, v3, .ref (g 34), v4, v5, v6, v7])), (q1, .inl (cyq1, 6, .inl (upd (upd (upd (upd (upd (upd (fun _ => 0) 0 x0) 1 x1) 2 x2) 3 x3) 4 x4) 5 x5)))]) (w1 := [(t9, .inr (0, [.ref b9, .int 0, .int 0, .int 0])), (b9, .inl (cb9, 4, .inl fb9)), (q1014, .inl (cy1015, 3, .inl (va_cpy (fb9) (fun _ => 0) 0 0 3))), (q1013, .inr (0, [.ref q1014, .int 0, .int 0, .int 0]))]) hP hD [2, 3] [0, 1] rfl rfl (by decide) (by decide) hk1 hFc hP1 hD1
    have hK := (hK.sub (tys' := [(cyq1, .int)]) [0] rfl).app hK1
    generalize H1 = H at hP hS ⊢
    have hP : va_P (dC, dI) vwCl [(h0, .inr (23, [.int 0, v1, v2, v3, .ref (g 34), v4, v5, v6, v7])), (q1, .inl (cyq1, 6, .inl (upd (upd (upd (upd (upd (upd (fun _ => 0) 0 x0) 1 x1) 2 x2) 3 x3) 4 x4) 5 x5))), (t9, .inr (0, [.ref b9, .int 0, .int 0, .int 0])), (b9, .inl (cb9, 4, .inl fb9)), (q1014, .inl (cy1015, 3, .inl (va_cpy (fb9) (fun _ => 0) 0 0 3))), (q1013, .inr (0, [.ref q1014, .int 0, .int 0, .int 0]))] H := hP
    have hD : va_D A [(h0, .inr (23, [.int 0, v1, v2, v3, .ref (g 34), v4, v5, v6, v7])), (q1, .inl (cyq1, 6, .inl (upd (upd (upd (upd (upd (upd (fun _ => 0) 0 x0) 1 x1) 2 x2) 3 x3) 4 x4) 5 x5))), (t9, .inr (0, [.ref b9, .int 0, .int 0, .int 0])), (b9, .inl (cb9, 4, .inl fb9)), (q1014, .inl (cy1015, 3, .inl (va_cpy (fb9) (fun _ => 0) 0 0 3))), (q1013, .inr (0, [.ref q1014, .int 0, .int 0, .int 0]))] := hD
    have hK : va_K (dC, dI) vwCl [(cyq1, .int), (cb9, .byte), (cy1015, .byte)] s := hK
    refine W.widen (k := 27) (n := 173) (Nat.le_of_ble_eq_true rfl) (Nat.le_of_ble_eq_true rfl) ?_
    refine lv_astore (lv' := [(9, .ref q1013), (13, .int x4), (12, .int 4), (11, .int 6), (10, .ref q1), (0, .ref h0)]) hx hb dX16_say_140 hl (by decide) rfl (fun ls hl => ?_)
    refine lv_aload_n hx hb dX16_say_142 rfl (lv_at hl 5 rfl) ?_
    refine lv_aload hx hb dX16_say_143 (lv_at hl 0 rfl) ?_
    have hPc := hP.sub (ws' := [(q1013, .inr (0, [.ref q1014, .int 0, .int 0, .int 0])), (q1014, .inl (cy1015, 3, .inl (va_cpy (fb9) (fun _ => 0) 0 0 3)))]) [5, 4] rfl
    have hDc := hD.sub (ws' := [(q1013, .inr (0, [.ref q1014, .int 0, .int 0, .int 0])), (q1014, .inl (cy1015, 3, .inl (va_cpy (fb9) (fun _ => 0) 0 0 3)))]) [5, 4] (by decide) rfl
    have hKc := hK.sub (tys' := [(cy1015, .byte)]) [2] rfl
    have hFc := va_free (wc := [(q1013, .inr (0, [.ref q1014, .int 0, .int 0, .int 0])), (q1014, .inl (cy1015, 3, .inl (va_cpy (fb9) (fun _ => 0) 0 0 3)))]) hD hS hA [5, 4] rfl
    refine va_calli (va_runV (As := []) (rest := [.ref h0]) ⟨hx, hb, hml, hown, hts⟩ (kJ0_length_8abf5_5 l dC dI g H.size q1013 q1014 (.int 0) (.int 0) cy1015 (va_cpy (fb9) (fun _ => 0) 0 0 3) (sb_fitC hb9 sb_fit0) ) (cwV 0 hts (ns_gp (List.forall_mem_cons.mpr ⟨wm646, (List.forall_mem_cons.mpr ⟨wm595, (List.forall_mem_cons.mpr ⟨wm596, (List.forall_mem_cons.mpr ⟨wm316, (fun _ h9 => nomatch h9)⟩)⟩)⟩)⟩) wm574) rfl rfl rfl (by decide +kernel) ⟨Nat.le_of_ble_eq_true rfl, Nat.le_of_ble_eq_true rfl⟩) ⟨fun a U gg mk q => by obtain ⟨q0, q1, qP, qK, qD, qF⟩ := q; exact ⟨q0, q1, qP, va_K.moved (u := U) (U := U.calling gg mk a) (Vm.Alike.refl U.vm) qK, qD, ns_same qF⟩, va_recv hK hP (ci := 0) (q0 := 5) rfl rfl, fun U hU hW => ⟨rfl, by rw [hU], by rw [hU]; exact hPc, va_K.moved hW.alike hKc, hDc.weaken (fun _ _ _ _ => trivial), ns_call hF hS hFc hU hW⟩⟩ rfl rfl hl.1 rfl (lv_room (Nat.le_of_ble_eq_true rfl)) dX16_say_145 ⟨Nat.le_of_ble_eq_true rfl, Nat.le_of_ble_eq_true rfl⟩) hS (fun q _ h => hFc q h) hFc (fun r9 u t H1 locs ht hvm hw hB hz1 hk1 hS => ?_)
    obtain rfl := hw.symm
    obtain ⟨hP1, hK1, hD1⟩ := hB
    rw [ht] at hP1
    have hK1 := va_K.moved hvm.symm hK1
    obtain ⟨hP, hD⟩ := va_join (wr := [(h0, .inr (23, [.int 0, v1, v2, v3, .ref (g 34), v4, v5, v6, v7])), (q1, .inl (cyq1, 6, .inl (upd (upd (upd (upd (upd (upd (fun _ => 0) 0 x0) 1 x1) 2 x2) 3 x3) 4 x4) 5 x5))), (t9, .inr (0, [.ref b9, .int 0, .int 0, .int 0])), (b9, .inl (cb9, 4, .inl fb9))]) (w1 := [(q1014, .inl (cy1015, 3, .inl (va_cpy (fb9) (fun _ => 0) 0 0 3))), (q1013, .inr (0, [.ref q1014, .int 0, .int 0, .int 0]))]) hP hD [5, 4] [0, 1, 2, 3] rfl rfl (by decide) (by decide) hk1 hFc hP1 hD1
    have hK := (hK.sub (tys' := [(cyq1, .int), (cb9, .byte)]) [0, 1] rfl).app hK1
    generalize H1 = H at hP hS ⊢
    have hP : va_P (dC, dI) vwCl [(h0, .inr (23, [.int 0, v1, v2, v3, .ref (g 34), v4, v5, v6, v7])), (q1, .inl (cyq1, 6, .inl (upd (upd (upd (upd (upd (upd (fun _ => 0) 0 x0) 1 x1) 2 x2) 3 x3) 4 x4) 5 x5))), (t9, .inr (0, [.ref b9, .int 0, .int 0, .int 0])), (b9, .inl (cb9, 4, .inl fb9)), (q1014, .inl (cy1015, 3, .inl (va_cpy (fb9) (fun _ => 0) 0 0 3))), (q1013, .inr (0, [.ref q1014, .int 0, .int 0, .int 0]))] H := hP
    have hD : va_D A [(h0, .inr (23, [.int 0, v1, v2, v3, .ref (g 34), v4, v5, v6, v7])), (q1, .inl (cyq1, 6, .inl (upd (upd (upd (upd (upd (upd (fun _ => 0) 0 x0) 1 x1) 2 x2) 3 x3) 4 x4) 5 x5))), (t9, .inr (0, [.ref b9, .int 0, .int 0, .int 0])), (b9, .inl (cb9, 4, .inl fb9)), (q1014, .inl (cy1015, 3, .inl (va_cpy (fb9) (fun _ => 0) 0 0 3))), (q1013, .inr (0, [.ref q1014, .int 0, .int 0, .int 0]))] := hD
    have hK : va_K (dC, dI) vwCl [(cyq1, .int), (cb9, .byte), (cy1015, .byte)] s := hK
    refine W.widen (k := 27) (n := 173) (Nat.le_of_ble_eq_true rfl) (Nat.le_of_ble_eq_true rfl) ?_
    refine lv_bipush (v := 60) hx hb dX16_say_148 (by decide) ?_
    refine lv_icmp_le (tgt := 157) hx hb dX16_say_150 (by decide) (fun c1016 => ?_) (fun c1016 => absurd (by decide) c1016)
    refine lv_iconst (v := 0) hx hb dX16_say_157 (by decide) ?_
    refine lv_iconst (v := 2) hx hb dX16_say_158 (by decide) ?_
    have hPc := hP.sub (ws' := [(h0, .inr (23, [.int 0, v1, v2, v3, .ref (g 34), v4, v5, v6, v7]))]) [0] rfl
    have hDc := hD.sub (ws' := [(h0, .inr (23, [.int 0, v1, v2, v3, .ref (g 34), v4, v5, v6, v7]))]) [0] (by decide) rfl
    have hKc := hK.sub (tys' := []) [] rfl
    have hFc := va_free (wc := [(h0, .inr (23, [.int 0, v1, v2, v3, .ref (g 34), v4, v5, v6, v7]))]) hD hS hA [0] rfl
    refine va_calli (va_runV (As := [.int 0, .int 2]) (rest := []) ⟨hx, hb, hml, hown, hts⟩ (kX16_refuse_3 l dC dI g H.size h0 v1 v2 v3 (.ref (g 34)) v4 v5 v6 v7 ) (cwV 2 hts (ns_gp (List.forall_mem_cons.mpr ⟨wm236, (List.forall_mem_cons.mpr ⟨wm237, (List.forall_mem_cons.mpr ⟨wm238, (List.forall_mem_cons.mpr ⟨wm192, (fun _ h9 => nomatch h9)⟩)⟩)⟩)⟩) wm235) rfl rfl rfl (by decide +kernel) ⟨Nat.le_of_ble_eq_true rfl, Nat.le_of_ble_eq_true rfl⟩) ⟨fun a U gg mk q => by obtain ⟨q0, q1, qP, qK, qD, qF⟩ := q; exact ⟨q0, q1, qP, va_K.moved (u := U) (U := U.calling gg mk a) (Vm.Alike.refl U.vm) qK, qD, ns_same qF⟩, va_recv hK hP (ci := 23) (q0 := 0) rfl rfl, fun U hU hW => ⟨rfl, by rw [hU], by rw [hU]; exact hPc, va_K.moved hW.alike hKc, hDc.weaken (fun _ _ _ _ => trivial), ns_call hF hS hFc hU hW⟩⟩ rfl rfl hl.1 rfl (lv_room (Nat.le_of_ble_eq_true rfl)) dX16_say_159 ⟨Nat.le_of_ble_eq_true rfl, Nat.le_of_ble_eq_true rfl⟩) hS (fun q _ h => hFc q h) hFc (fun r9 u t H1 locs ht hvm hw hB hz1 hk1 hS => ?_)
    obtain rfl := hw.symm
    obtain ⟨hP1, hK1, hD1⟩ := hB
    rw [ht] at hP1
    have hK1 := va_K.moved hvm.symm hK1
    obtain ⟨hP, hD⟩ := va_join (wr := [(q1, .inl (cyq1, 6, .inl (upd (upd (upd (upd (upd (upd (fun _ => 0) 0 x0) 1 x1) 2 x2) 3 x3) 4 x4) 5 x5))), (t9, .inr (0, [.ref b9, .int 0, .int 0, .int 0])), (b9, .inl (cb9, 4, .inl fb9)), (q1014, .inl (cy1015, 3, .inl (va_cpy (fb9) (fun _ => 0) 0 0 3))), (q1013, .inr (0, [.ref q1014, .int 0, .int 0, .int 0]))]) (w1 := [(h0, .inr (23, [.int 0, v1, v2, v3, .ref (g 34), v4, v5, v6, v7]))]) hP hD [0] [1, 2, 3, 4, 5] rfl rfl (by decide) (by decide) hk1 hFc hP1 hD1
    have hK := (hK.sub (tys' := [(cyq1, .int), (cb9, .byte), (cy1015, .byte)]) [0, 1, 2] rfl).app hK1
    generalize H1 = H at hP hS ⊢
    have hP : va_P (dC, dI) vwCl [(q1, .inl (cyq1, 6, .inl (upd (upd (upd (upd (upd (upd (fun _ => 0) 0 x0) 1 x1) 2 x2) 3 x3) 4 x4) 5 x5))), (t9, .inr (0, [.ref b9, .int 0, .int 0, .int 0])), (b9, .inl (cb9, 4, .inl fb9)), (q1014, .inl (cy1015, 3, .inl (va_cpy (fb9) (fun _ => 0) 0 0 3))), (q1013, .inr (0, [.ref q1014, .int 0, .int 0, .int 0])), (h0, .inr (23, [.int 0, v1, v2, v3, .ref (g 34), v4, v5, v6, v7]))] H := hP
    have hD : va_D A [(q1, .inl (cyq1, 6, .inl (upd (upd (upd (upd (upd (upd (fun _ => 0) 0 x0) 1 x1) 2 x2) 3 x3) 4 x4) 5 x5))), (t9, .inr (0, [.ref b9, .int 0, .int 0, .int 0])), (b9, .inl (cb9, 4, .inl fb9)), (q1014, .inl (cy1015, 3, .inl (va_cpy (fb9) (fun _ => 0) 0 0 3))), (q1013, .inr (0, [.ref q1014, .int 0, .int 0, .int 0])), (h0, .inr (23, [.int 0, v1, v2, v3, .ref (g 34), v4, v5, v6, v7]))] := hD
    have hK : va_K (dC, dI) vwCl [(cyq1, .int), (cb9, .byte), (cy1015, .byte)] s := hK
    refine W.widen (k := 27) (n := 173) (Nat.le_of_ble_eq_true rfl) (Nat.le_of_ble_eq_true rfl) ?_
    refine lv_if_eq (tgt := 167) hx hb dX16_say_162 (by decide) (fun c1017 => ?_) (fun c1017 => absurd (by decide) c1017)
    refine lv_iinc (v := 5) (lv' := [(12, .int 5), (9, .ref q1013), (13, .int x4), (11, .int 6), (10, .ref q1), (0, .ref h0)]) hx hb dX16_say_167 hl (k := 2) rfl (by decide) (by decide) rfl (fun ls hl => ?_)
    refine lv_goto (tgt := 119) hx hb dX16_say_170 (by decide) ?_
    have hP := hP.sub (ws' := [(h0, .inr (23, [.int 0, v1, v2, v3, .ref (g 34), v4, v5, v6, v7])), (q1, .inl (cyq1, 6, .inl (upd (upd (upd (upd (upd (upd (fun _ => 0) 0 x0) 1 x1) 2 x2) 3 x3) 4 x4) 5 x5))), (q1013, .inr (0, [.ref q1014, .int 0, .int 0, .int 0])), (q1014, .inl (cy1015, 3, .inl (va_cpy (fb9) (fun _ => 0) 0 0 3)))]) [5, 0, 4, 3] rfl
    have hD := hD.sub (ws' := [(h0, .inr (23, [.int 0, v1, v2, v3, .ref (g 34), v4, v5, v6, v7])), (q1, .inl (cyq1, 6, .inl (upd (upd (upd (upd (upd (upd (fun _ => 0) 0 x0) 1 x1) 2 x2) 3 x3) 4 x4) 5 x5))), (q1013, .inr (0, [.ref q1014, .int 0, .int 0, .int 0])), (q1014, .inl (cy1015, 3, .inl (va_cpy (fb9) (fun _ => 0) 0 0 3)))]) [5, 0, 4, 3] (by decide) rfl
    have hK := hK.sub (tys' := [(cyq1, .int), (cy1015, .byte)]) [0, 2] rfl
    have hl := lv_sub hl (l' := [(12, .int 5), (11, .int 6), (10, .ref q1), (9, .ref q1013), (0, .ref h0)]) [0, 3, 4, 1, 5] rfl
    refine W.widen (k := 31) (n := 206) (Nat.le_of_ble_eq_true rfl) (Nat.le_of_ble_eq_true rfl) ?_
    have hE2 : ns_len E9 x4 = 3 := by rw [hE]; exact (ns_lenC x4 4 (by decide) (by omega)).trans (by decide)
    exact ns_say_5_3 (sb_fitC hb9 sb_fit0) hE2 ex0 ex1 ex2 ex3 ex4 ex5 hx hb hml hown hts hA hF hK hP hD hS hl k09 k19 k29 k39 k49 k59 k69
  · have _h9 := 0
    refine lv_aload hx hb dX16_say_133 (lv_at hl 4 rfl) ?_
    refine lv_iload hx hb dX16_say_135 (lv_at hl 0 rfl) ?_
    have hPc := hP.sub (ws' := []) [] rfl
    have hDc := hD.sub (ws' := []) [] (by decide) rfl
    have hKc := hK.sub (tys' := []) [] rfl
    have hFc := va_free (wc := []) hD hS hA [] rfl
    refine va_callr (va_runS (As := [.ref t9, .int x4]) (rest := []) ⟨hx, hb, hml, hown, hts⟩ (kX16_said_8 l dC dI g H.size t9 x4 ⟨by omega, by omega⟩) (va_cwS 2 hts (ns_gp (List.forall_mem_cons.mpr ⟨wm655, (List.forall_mem_cons.mpr ⟨wm656, (List.forall_mem_cons.mpr ⟨wm192, (fun _ h9 => nomatch h9)⟩)⟩)⟩) wm604) rfl rfl rfl (by decide +kernel) ⟨Nat.le_of_ble_eq_true rfl, Nat.le_of_ble_eq_true rfl⟩) ⟨fun a U gg mk q => by obtain ⟨q0, q1, qP, qK, qD, qF⟩ := q; exact ⟨q0, q1, qP, va_K.moved (u := U) (U := U.calling gg mk a) (Vm.Alike.refl U.vm) qK, qD, ns_same qF⟩, fun U hU hW => ⟨rfl, by rw [hU], by rw [hU]; exact hPc, va_K.moved hW.alike hKc, hDc.weaken (fun _ _ _ _ => trivial), ns_call hF hS hFc hU hW⟩⟩ rfl rfl hl.1 rfl (lv_room (Nat.le_of_ble_eq_true rfl)) dX16_say_137 ⟨Nat.le_of_ble_eq_true rfl, Nat.le_of_ble_eq_true rfl⟩) hS (fun q _ h => hFc q h) hFc (fun u r9 t H1 locs ht hvm hw hB hz1 hk1 hS => ?_)
    obtain ⟨hr9, hP1, hK1, hD1⟩ := hB
    obtain rfl := hr9.symm
    rw [ht] at hP1
    have hK1 := va_K.moved hvm.symm hK1
    obtain ⟨hP, hD⟩ := va_join (wr := [(h0, .inr (23, [.int 0, v1, v2, v3, .ref (g 34), v4, v5, v6, v7])), (q1, .inl (cyq1, 6, .inl (upd (upd (upd (upd (upd (upd (fun _ => 0) 0 x0) 1 x1) 2 x2) 3 x3) 4 x4) 5 x5))), (t9, .inr (0, [.ref b9, .int 0, .int 0, .int 0])), (b9, .inl (cb9, 4, .inl fb9))]) (w1 := []) hP hD [] [0, 1, 2, 3] rfl rfl (by decide) (by decide) hk1 hFc hP1 hD1
    have hK := (hK.sub (tys' := [(cyq1, .int), (cb9, .byte)]) [0, 1] rfl).app hK1
    generalize H1 = H at hP hS ⊢
    have hP : va_P (dC, dI) vwCl [(h0, .inr (23, [.int 0, v1, v2, v3, .ref (g 34), v4, v5, v6, v7])), (q1, .inl (cyq1, 6, .inl (upd (upd (upd (upd (upd (upd (fun _ => 0) 0 x0) 1 x1) 2 x2) 3 x3) 4 x4) 5 x5))), (t9, .inr (0, [.ref b9, .int 0, .int 0, .int 0])), (b9, .inl (cb9, 4, .inl fb9))] H := hP
    have hD : va_D A [(h0, .inr (23, [.int 0, v1, v2, v3, .ref (g 34), v4, v5, v6, v7])), (q1, .inl (cyq1, 6, .inl (upd (upd (upd (upd (upd (upd (fun _ => 0) 0 x0) 1 x1) 2 x2) 3 x3) 4 x4) 5 x5))), (t9, .inr (0, [.ref b9, .int 0, .int 0, .int 0])), (b9, .inl (cb9, 4, .inl fb9))] := hD
    have hK : va_K (dC, dI) vwCl [(cyq1, .int), (cb9, .byte)] s := hK
    refine W.widen (k := 25) (n := 166) (Nat.le_of_ble_eq_true rfl) (Nat.le_of_ble_eq_true rfl) ?_
    refine lv_astore (lv' := [(9, .ref (g 34)), (13, .int x4), (12, .int 4), (11, .int 6), (10, .ref q1), (0, .ref h0)]) hx hb dX16_say_140 hl (by decide) rfl (fun ls hl => ?_)
    refine lv_aload_n hx hb dX16_say_142 rfl (lv_at hl 5 rfl) ?_
    refine lv_aload hx hb dX16_say_143 (lv_at hl 0 rfl) ?_
    have hPc := hP.sub (ws' := []) [] rfl
    have hDc := hD.sub (ws' := []) [] (by decide) rfl
    have hKc := hK.sub (tys' := []) [] rfl
    have hFc := va_free (wc := []) hD hS hA [] rfl
    refine va_calli (va_runV (As := []) (rest := [.ref h0]) ⟨hx, hb, hml, hown, hts⟩ (kJ0_length_8abf5_2 l dC dI g H.size  ) (cwV 0 hts (ns_gp (List.forall_mem_cons.mpr ⟨wm646, (List.forall_mem_cons.mpr ⟨wm595, (List.forall_mem_cons.mpr ⟨wm596, (List.forall_mem_cons.mpr ⟨wm316, (fun _ h9 => nomatch h9)⟩)⟩)⟩)⟩) wm574) rfl rfl rfl (by decide +kernel) ⟨Nat.le_of_ble_eq_true rfl, Nat.le_of_ble_eq_true rfl⟩) ⟨fun a U gg mk q => by obtain ⟨q0, q1, qP, qK, qD, qF⟩ := q; exact ⟨q0, q1, qP, va_K.moved (u := U) (U := U.calling gg mk a) (Vm.Alike.refl U.vm) qK, qD, ns_same qF⟩, va_Orecv (ns_f38 hF) hS, fun U hU hW => ⟨rfl, by rw [hU], by rw [hU]; exact hPc, va_K.moved hW.alike hKc, hDc.weaken (fun _ _ _ _ => trivial), ns_call hF hS hFc hU hW⟩⟩ rfl rfl hl.1 rfl (lv_room (Nat.le_of_ble_eq_true rfl)) dX16_say_145 ⟨Nat.le_of_ble_eq_true rfl, Nat.le_of_ble_eq_true rfl⟩) hS (fun q _ h => hFc q h) hFc (fun r9 u t H1 locs ht hvm hw hB hz1 hk1 hS => ?_)
    obtain rfl := hw.symm
    obtain ⟨hP1, hK1, hD1⟩ := hB
    rw [ht] at hP1
    have hK1 := va_K.moved hvm.symm hK1
    obtain ⟨hP, hD⟩ := va_join (wr := [(h0, .inr (23, [.int 0, v1, v2, v3, .ref (g 34), v4, v5, v6, v7])), (q1, .inl (cyq1, 6, .inl (upd (upd (upd (upd (upd (upd (fun _ => 0) 0 x0) 1 x1) 2 x2) 3 x3) 4 x4) 5 x5))), (t9, .inr (0, [.ref b9, .int 0, .int 0, .int 0])), (b9, .inl (cb9, 4, .inl fb9))]) (w1 := []) hP hD [] [0, 1, 2, 3] rfl rfl (by decide) (by decide) hk1 hFc hP1 hD1
    have hK := (hK.sub (tys' := [(cyq1, .int), (cb9, .byte)]) [0, 1] rfl).app hK1
    generalize H1 = H at hP hS ⊢
    have hP : va_P (dC, dI) vwCl [(h0, .inr (23, [.int 0, v1, v2, v3, .ref (g 34), v4, v5, v6, v7])), (q1, .inl (cyq1, 6, .inl (upd (upd (upd (upd (upd (upd (fun _ => 0) 0 x0) 1 x1) 2 x2) 3 x3) 4 x4) 5 x5))), (t9, .inr (0, [.ref b9, .int 0, .int 0, .int 0])), (b9, .inl (cb9, 4, .inl fb9))] H := hP
    have hD : va_D A [(h0, .inr (23, [.int 0, v1, v2, v3, .ref (g 34), v4, v5, v6, v7])), (q1, .inl (cyq1, 6, .inl (upd (upd (upd (upd (upd (upd (fun _ => 0) 0 x0) 1 x1) 2 x2) 3 x3) 4 x4) 5 x5))), (t9, .inr (0, [.ref b9, .int 0, .int 0, .int 0])), (b9, .inl (cb9, 4, .inl fb9))] := hD
    have hK : va_K (dC, dI) vwCl [(cyq1, .int), (cb9, .byte)] s := hK
    refine W.widen (k := 25) (n := 166) (Nat.le_of_ble_eq_true rfl) (Nat.le_of_ble_eq_true rfl) ?_
    refine lv_bipush (v := 60) hx hb dX16_say_148 (by decide) ?_
    refine lv_icmp_le (tgt := 157) hx hb dX16_say_150 (by decide) (fun c1018 => ?_) (fun c1018 => absurd (by decide) c1018)
    refine lv_iconst (v := 0) hx hb dX16_say_157 (by decide) ?_
    refine lv_iconst (v := 2) hx hb dX16_say_158 (by decide) ?_
    have hPc := hP.sub (ws' := [(h0, .inr (23, [.int 0, v1, v2, v3, .ref (g 34), v4, v5, v6, v7]))]) [0] rfl
    have hDc := hD.sub (ws' := [(h0, .inr (23, [.int 0, v1, v2, v3, .ref (g 34), v4, v5, v6, v7]))]) [0] (by decide) rfl
    have hKc := hK.sub (tys' := []) [] rfl
    have hFc := va_free (wc := [(h0, .inr (23, [.int 0, v1, v2, v3, .ref (g 34), v4, v5, v6, v7]))]) hD hS hA [0] rfl
    refine va_calli (va_runV (As := [.int 0, .int 2]) (rest := []) ⟨hx, hb, hml, hown, hts⟩ (kX16_refuse_3 l dC dI g H.size h0 v1 v2 v3 (.ref (g 34)) v4 v5 v6 v7 ) (cwV 2 hts (ns_gp (List.forall_mem_cons.mpr ⟨wm236, (List.forall_mem_cons.mpr ⟨wm237, (List.forall_mem_cons.mpr ⟨wm238, (List.forall_mem_cons.mpr ⟨wm192, (fun _ h9 => nomatch h9)⟩)⟩)⟩)⟩) wm235) rfl rfl rfl (by decide +kernel) ⟨Nat.le_of_ble_eq_true rfl, Nat.le_of_ble_eq_true rfl⟩) ⟨fun a U gg mk q => by obtain ⟨q0, q1, qP, qK, qD, qF⟩ := q; exact ⟨q0, q1, qP, va_K.moved (u := U) (U := U.calling gg mk a) (Vm.Alike.refl U.vm) qK, qD, ns_same qF⟩, va_recv hK hP (ci := 23) (q0 := 0) rfl rfl, fun U hU hW => ⟨rfl, by rw [hU], by rw [hU]; exact hPc, va_K.moved hW.alike hKc, hDc.weaken (fun _ _ _ _ => trivial), ns_call hF hS hFc hU hW⟩⟩ rfl rfl hl.1 rfl (lv_room (Nat.le_of_ble_eq_true rfl)) dX16_say_159 ⟨Nat.le_of_ble_eq_true rfl, Nat.le_of_ble_eq_true rfl⟩) hS (fun q _ h => hFc q h) hFc (fun r9 u t H1 locs ht hvm hw hB hz1 hk1 hS => ?_)
    obtain rfl := hw.symm
    obtain ⟨hP1, hK1, hD1⟩ := hB
    rw [ht] at hP1
    have hK1 := va_K.moved hvm.symm hK1
    obtain ⟨hP, hD⟩ := va_join (wr := [(q1, .inl (cyq1, 6, .inl (upd (upd (upd (upd (upd (upd (fun _ => 0) 0 x0) 1 x1) 2 x2) 3 x3) 4 x4) 5 x5))), (t9, .inr (0, [.ref b9, .int 0, .int 0, .int 0])), (b9, .inl (cb9, 4, .inl fb9))]) (w1 := [(h0, .inr (23, [.int 0, v1, v2, v3, .ref (g 34), v4, v5, v6, v7]))]) hP hD [0] [1, 2, 3] rfl rfl (by decide) (by decide) hk1 hFc hP1 hD1
    have hK := (hK.sub (tys' := [(cyq1, .int), (cb9, .byte)]) [0, 1] rfl).app hK1
    generalize H1 = H at hP hS ⊢
    have hP : va_P (dC, dI) vwCl [(q1, .inl (cyq1, 6, .inl (upd (upd (upd (upd (upd (upd (fun _ => 0) 0 x0) 1 x1) 2 x2) 3 x3) 4 x4) 5 x5))), (t9, .inr (0, [.ref b9, .int 0, .int 0, .int 0])), (b9, .inl (cb9, 4, .inl fb9)), (h0, .inr (23, [.int 0, v1, v2, v3, .ref (g 34), v4, v5, v6, v7]))] H := hP
    have hD : va_D A [(q1, .inl (cyq1, 6, .inl (upd (upd (upd (upd (upd (upd (fun _ => 0) 0 x0) 1 x1) 2 x2) 3 x3) 4 x4) 5 x5))), (t9, .inr (0, [.ref b9, .int 0, .int 0, .int 0])), (b9, .inl (cb9, 4, .inl fb9)), (h0, .inr (23, [.int 0, v1, v2, v3, .ref (g 34), v4, v5, v6, v7]))] := hD
    have hK : va_K (dC, dI) vwCl [(cyq1, .int), (cb9, .byte)] s := hK
    refine W.widen (k := 25) (n := 166) (Nat.le_of_ble_eq_true rfl) (Nat.le_of_ble_eq_true rfl) ?_
    refine lv_if_eq (tgt := 167) hx hb dX16_say_162 (by decide) (fun c1019 => ?_) (fun c1019 => absurd (by decide) c1019)
    refine lv_iinc (v := 5) (lv' := [(12, .int 5), (9, .ref (g 34)), (13, .int x4), (11, .int 6), (10, .ref q1), (0, .ref h0)]) hx hb dX16_say_167 hl (k := 2) rfl (by decide) (by decide) rfl (fun ls hl => ?_)
    refine lv_goto (tgt := 119) hx hb dX16_say_170 (by decide) ?_
    have hP := hP.sub (ws' := [(h0, .inr (23, [.int 0, v1, v2, v3, .ref (g 34), v4, v5, v6, v7])), (q1, .inl (cyq1, 6, .inl (upd (upd (upd (upd (upd (upd (fun _ => 0) 0 x0) 1 x1) 2 x2) 3 x3) 4 x4) 5 x5)))]) [3, 0] rfl
    have hD := hD.sub (ws' := [(h0, .inr (23, [.int 0, v1, v2, v3, .ref (g 34), v4, v5, v6, v7])), (q1, .inl (cyq1, 6, .inl (upd (upd (upd (upd (upd (upd (fun _ => 0) 0 x0) 1 x1) 2 x2) 3 x3) 4 x4) 5 x5)))]) [3, 0] (by decide) rfl
    have hK := hK.sub (tys' := [(cyq1, .int)]) [0] rfl
    have hl := lv_sub hl (l' := [(12, .int 5), (11, .int 6), (10, .ref q1), (9, .ref (g 34)), (0, .ref h0)]) [0, 3, 4, 1, 5] rfl
    refine W.widen (k := 31) (n := 206) (Nat.le_of_ble_eq_true rfl) (Nat.le_of_ble_eq_true rfl) ?_
    have hE2 : ns_len E9 x4 = 0 := by rw [hE]; exact ns_lenD x4 4 (by omega)
    exact ns_say_5_0 hE2 ex0 ex1 ex2 ex3 ex4 ex5 hx hb hml hown hts hA hF hK hP hD hS hl k09 k19 k29 k39 k49 k59 k69

set_option maxHeartbeats 4000000 in
set_option maxRecDepth 100000 in
theorem ns_say_4_3 {p : Program} {l : Launch} {e : Env} {s : State} {m : MethodId} {args : Array Value} {below : List Frame} {meth : Method} {c : Code} {dC : Nat → ClassId} {dI : Nat → Nat → Nat} {g : Nat → Nat} {A : Nat → Prop} {Q : State → Prop} {h0 : Nat} {x0 : Int32} {x1 : Int32} {x2 : Int32} {x3 : Int32} {x4 : Int32} {x5 : Int32} {v1 : Value} {v2 : Value} {v3 : Value} {v4 : Value} {v5 : Value} {v6 : Value} {v7 : Value} {q1 : Nat} {cyq1 : ClassId} {t9 b9 : Nat} {cb9 : ClassId} {fb9 : Nat → Int32} (hb9 : sb_Fit fb9) {H : Heap} {locs : List Loc} {ls : Array Slot} {E9 : Int32} (hE : E9 = 3) (ex0 : (-1 : Int) ≤ x0.toInt ∧ x0.toInt ≤ (21 : Int)) (ex1 : (-1 : Int) ≤ x1.toInt ∧ x1.toInt ≤ (21 : Int)) (ex2 : (-1 : Int) ≤ x2.toInt ∧ x2.toInt ≤ (21 : Int)) (ex3 : (-1 : Int) ≤ x3.toInt ∧ x3.toInt ≤ (21 : Int)) (ex4 : (-1 : Int) ≤ x4.toInt ∧ x4.toInt ≤ (21 : Int)) (ex5 : (-1 : Int) ≤ x5.toInt ∧ x5.toInt ≤ (21 : Int)) (hx : p.tables.exec = Jvm.exec) (hb : c.code = cX16_say) (hml : c.maxLocals = 14) (hown : s.vm.findClass RX16 = some m.cls) (hts : ∀ w ∈ wbX16_say, w.before args s = true) (hA : ∀ q : Nat, s.heap.size ≤ q → A q) (hF : ns_F g A s s.heap) (hK : va_K (dC, dI) vwCl [(cyq1, .int), (cb9, .byte)] s) (hP : va_P (dC, dI) vwCl [(h0, .inr (23, [.int 0, v1, v2, v3, .ref (g 34), v4, v5, v6, v7])), (q1, .inl (cyq1, 6, .inl (upd (upd (upd (upd (upd (upd (fun _ => 0) 0 x0) 1 x1) 2 x2) 3 x3) 4 x4) 5 x5))), (t9, .inr (0, [.ref b9, .int 0, .int 0, .int 0])), (b9, .inl (cb9, 3, .inl fb9))] H) (hD : va_D A [(h0, .inr (23, [.int 0, v1, v2, v3, .ref (g 34), v4, v5, v6, v7])), (q1, .inl (cyq1, 6, .inl (upd (upd (upd (upd (upd (upd (fun _ => 0) 0 x0) 1 x1) 2 x2) 3 x3) 4 x4) 5 x5))), (t9, .inr (0, [.ref b9, .int 0, .int 0, .int 0])), (b9, .inl (cb9, 3, .inl fb9))]) (hS : va_S A s.heap H locs) (hl : lv_has ls 14 [(12, .int 4), (11, .int 6), (10, .ref q1), (9, .ref t9), (0, .ref h0)]) (k09 : ∀ (H : Heap) (locs : List Loc) (ls : Array Slot), (ns_len (ns_len E9 x4) x5) = 0 → va_K (dC, dI) vwCl [(cyq1, .int)] s → va_P (dC, dI) vwCl [(h0, .inr (23, [.int 0, v1, v2, v3, .ref (g 34), v4, v5, v6, v7])), (q1, .inl (cyq1, 6, .inl (upd (upd (upd (upd (upd (upd (fun _ => 0) 0 x0) 1 x1) 2 x2) 3 x3) 4 x4) 5 x5)))] H → va_D A [(h0, .inr (23, [.int 0, v1, v2, v3, .ref (g 34), v4, v5, v6, v7])), (q1, .inl (cyq1, 6, .inl (upd (upd (upd (upd (upd (upd (fun _ => 0) 0 x0) 1 x1) 2 x2) 3 x3) 4 x4) 5 x5)))] → va_S A s.heap H locs → lv_has ls 14 [(9, .ref (g 34)), (0, .ref h0)] → W p l e ({ frames := 7, cells := 37, slots := 246, locals := 172 } : Room) s m args below meth c H locs 37 246 Q (F0 m 173 ls [])) (k19 : ∀ (t9 b9 : Nat) (cb9 : ClassId) (fb9 : Nat → Int32) (hb9 : sb_Fit fb9), ∀ (H : Heap) (locs : List Loc) (ls : Array Slot), (ns_len (ns_len E9 x4) x5) = 1 → va_K (dC, dI) vwCl [(cyq1, .int), (cb9, .byte)] s → va_P (dC, dI) vwCl [(h0, .inr (23, [.int 0, v1, v2, v3, .ref (g 34), v4, v5, v6, v7])), (q1, .inl (cyq1, 6, .inl (upd (upd (upd (upd (upd (upd (fun _ => 0) 0 x0) 1 x1) 2 x2) 3 x3) 4 x4) 5 x5))), (t9, .inr (0, [.ref b9, .int 0, .int 0, .int 0])), (b9, .inl (cb9, 1, .inl fb9))] H → va_D A [(h0, .inr (23, [.int 0, v1, v2, v3, .ref (g 34), v4, v5, v6, v7])), (q1, .inl (cyq1, 6, .inl (upd (upd (upd (upd (upd (upd (fun _ => 0) 0 x0) 1 x1) 2 x2) 3 x3) 4 x4) 5 x5))), (t9, .inr (0, [.ref b9, .int 0, .int 0, .int 0])), (b9, .inl (cb9, 1, .inl fb9))] → va_S A s.heap H locs → lv_has ls 14 [(9, .ref t9), (0, .ref h0)] → W p l e ({ frames := 7, cells := 37, slots := 246, locals := 172 } : Room) s m args below meth c H locs 37 246 Q (F0 m 173 ls [])) (k29 : ∀ (t9 b9 : Nat) (cb9 : ClassId) (fb9 : Nat → Int32) (hb9 : sb_Fit fb9), ∀ (H : Heap) (locs : List Loc) (ls : Array Slot), (ns_len (ns_len E9 x4) x5) = 2 → va_K (dC, dI) vwCl [(cyq1, .int), (cb9, .byte)] s → va_P (dC, dI) vwCl [(h0, .inr (23, [.int 0, v1, v2, v3, .ref (g 34), v4, v5, v6, v7])), (q1, .inl (cyq1, 6, .inl (upd (upd (upd (upd (upd (upd (fun _ => 0) 0 x0) 1 x1) 2 x2) 3 x3) 4 x4) 5 x5))), (t9, .inr (0, [.ref b9, .int 0, .int 0, .int 0])), (b9, .inl (cb9, 2, .inl fb9))] H → va_D A [(h0, .inr (23, [.int 0, v1, v2, v3, .ref (g 34), v4, v5, v6, v7])), (q1, .inl (cyq1, 6, .inl (upd (upd (upd (upd (upd (upd (fun _ => 0) 0 x0) 1 x1) 2 x2) 3 x3) 4 x4) 5 x5))), (t9, .inr (0, [.ref b9, .int 0, .int 0, .int 0])), (b9, .inl (cb9, 2, .inl fb9))] → va_S A s.heap H locs → lv_has ls 14 [(9, .ref t9), (0, .ref h0)] → W p l e ({ frames := 7, cells := 37, slots := 246, locals := 172 } : Room) s m args below meth c H locs 37 246 Q (F0 m 173 ls [])) (k39 : ∀ (t9 b9 : Nat) (cb9 : ClassId) (fb9 : Nat → Int32) (hb9 : sb_Fit fb9), ∀ (H : Heap) (locs : List Loc) (ls : Array Slot), (ns_len (ns_len E9 x4) x5) = 3 → va_K (dC, dI) vwCl [(cyq1, .int), (cb9, .byte)] s → va_P (dC, dI) vwCl [(h0, .inr (23, [.int 0, v1, v2, v3, .ref (g 34), v4, v5, v6, v7])), (q1, .inl (cyq1, 6, .inl (upd (upd (upd (upd (upd (upd (fun _ => 0) 0 x0) 1 x1) 2 x2) 3 x3) 4 x4) 5 x5))), (t9, .inr (0, [.ref b9, .int 0, .int 0, .int 0])), (b9, .inl (cb9, 3, .inl fb9))] H → va_D A [(h0, .inr (23, [.int 0, v1, v2, v3, .ref (g 34), v4, v5, v6, v7])), (q1, .inl (cyq1, 6, .inl (upd (upd (upd (upd (upd (upd (fun _ => 0) 0 x0) 1 x1) 2 x2) 3 x3) 4 x4) 5 x5))), (t9, .inr (0, [.ref b9, .int 0, .int 0, .int 0])), (b9, .inl (cb9, 3, .inl fb9))] → va_S A s.heap H locs → lv_has ls 14 [(9, .ref t9), (0, .ref h0)] → W p l e ({ frames := 7, cells := 37, slots := 246, locals := 172 } : Room) s m args below meth c H locs 37 246 Q (F0 m 173 ls [])) (k49 : ∀ (t9 b9 : Nat) (cb9 : ClassId) (fb9 : Nat → Int32) (hb9 : sb_Fit fb9), ∀ (H : Heap) (locs : List Loc) (ls : Array Slot), (ns_len (ns_len E9 x4) x5) = 4 → va_K (dC, dI) vwCl [(cyq1, .int), (cb9, .byte)] s → va_P (dC, dI) vwCl [(h0, .inr (23, [.int 0, v1, v2, v3, .ref (g 34), v4, v5, v6, v7])), (q1, .inl (cyq1, 6, .inl (upd (upd (upd (upd (upd (upd (fun _ => 0) 0 x0) 1 x1) 2 x2) 3 x3) 4 x4) 5 x5))), (t9, .inr (0, [.ref b9, .int 0, .int 0, .int 0])), (b9, .inl (cb9, 4, .inl fb9))] H → va_D A [(h0, .inr (23, [.int 0, v1, v2, v3, .ref (g 34), v4, v5, v6, v7])), (q1, .inl (cyq1, 6, .inl (upd (upd (upd (upd (upd (upd (fun _ => 0) 0 x0) 1 x1) 2 x2) 3 x3) 4 x4) 5 x5))), (t9, .inr (0, [.ref b9, .int 0, .int 0, .int 0])), (b9, .inl (cb9, 4, .inl fb9))] → va_S A s.heap H locs → lv_has ls 14 [(9, .ref t9), (0, .ref h0)] → W p l e ({ frames := 7, cells := 37, slots := 246, locals := 172 } : Room) s m args below meth c H locs 37 246 Q (F0 m 173 ls [])) (k59 : ∀ (t9 b9 : Nat) (cb9 : ClassId) (fb9 : Nat → Int32) (hb9 : sb_Fit fb9), ∀ (H : Heap) (locs : List Loc) (ls : Array Slot), (ns_len (ns_len E9 x4) x5) = 5 → va_K (dC, dI) vwCl [(cyq1, .int), (cb9, .byte)] s → va_P (dC, dI) vwCl [(h0, .inr (23, [.int 0, v1, v2, v3, .ref (g 34), v4, v5, v6, v7])), (q1, .inl (cyq1, 6, .inl (upd (upd (upd (upd (upd (upd (fun _ => 0) 0 x0) 1 x1) 2 x2) 3 x3) 4 x4) 5 x5))), (t9, .inr (0, [.ref b9, .int 0, .int 0, .int 0])), (b9, .inl (cb9, 5, .inl fb9))] H → va_D A [(h0, .inr (23, [.int 0, v1, v2, v3, .ref (g 34), v4, v5, v6, v7])), (q1, .inl (cyq1, 6, .inl (upd (upd (upd (upd (upd (upd (fun _ => 0) 0 x0) 1 x1) 2 x2) 3 x3) 4 x4) 5 x5))), (t9, .inr (0, [.ref b9, .int 0, .int 0, .int 0])), (b9, .inl (cb9, 5, .inl fb9))] → va_S A s.heap H locs → lv_has ls 14 [(9, .ref t9), (0, .ref h0)] → W p l e ({ frames := 7, cells := 37, slots := 246, locals := 172 } : Room) s m args below meth c H locs 37 246 Q (F0 m 173 ls [])) (k69 : ∀ (t9 b9 : Nat) (cb9 : ClassId) (fb9 : Nat → Int32) (hb9 : sb_Fit fb9), ∀ (H : Heap) (locs : List Loc) (ls : Array Slot), (ns_len (ns_len E9 x4) x5) = 6 → va_K (dC, dI) vwCl [(cyq1, .int), (cb9, .byte)] s → va_P (dC, dI) vwCl [(h0, .inr (23, [.int 0, v1, v2, v3, .ref (g 34), v4, v5, v6, v7])), (q1, .inl (cyq1, 6, .inl (upd (upd (upd (upd (upd (upd (fun _ => 0) 0 x0) 1 x1) 2 x2) 3 x3) 4 x4) 5 x5))), (t9, .inr (0, [.ref b9, .int 0, .int 0, .int 0])), (b9, .inl (cb9, 6, .inl fb9))] H → va_D A [(h0, .inr (23, [.int 0, v1, v2, v3, .ref (g 34), v4, v5, v6, v7])), (q1, .inl (cyq1, 6, .inl (upd (upd (upd (upd (upd (upd (fun _ => 0) 0 x0) 1 x1) 2 x2) 3 x3) 4 x4) 5 x5))), (t9, .inr (0, [.ref b9, .int 0, .int 0, .int 0])), (b9, .inl (cb9, 6, .inl fb9))] → va_S A s.heap H locs → lv_has ls 14 [(9, .ref t9), (0, .ref h0)] → W p l e ({ frames := 7, cells := 37, slots := 246, locals := 172 } : Room) s m args below meth c H locs 37 246 Q (F0 m 173 ls [])) : W p l e ({ frames := 7, cells := 37, slots := 246, locals := 172 } : Room) s m args below meth c H locs 25 166 Q (F0 m 119 ls []) := by
  have hta : ∀ w ∈ wsALL, w.before args s = true := fun w h => hts w (List.mem_cons_of_mem _ h)
  refine lv_iload hx hb dX16_say_119 (lv_at hl 0 rfl) ?_
  refine lv_iload hx hb dX16_say_121 (lv_at hl 1 rfl) ?_
  refine lv_icmp_ge (tgt := 173) hx hb dX16_say_123 (by decide) (fun c1001 => absurd c1001 (by decide)) (fun c1001 => ?_)
  refine lv_aload hx hb dX16_say_126 (lv_at hl 2 rfl) ?_
  refine lv_iload hx hb dX16_say_128 (lv_at hl 0 rfl) ?_
  refine va_iald hx hb hK hP 1 0 rfl rfl (vp_in_nI (n := 4) (by decide) (by decide)) dX16_say_130 ?_
  refine lv_topi (fun y1002 ey1002 => ?_)
  obtain rfl : x4 = y1002 := ey1002.symm
  refine lv_istore (lv' := [(13, .int x4), (12, .int 4), (11, .int 6), (10, .ref q1), (9, .ref t9), (0, .ref h0)]) hx hb dX16_say_131 hl (by decide) rfl (fun ls hl => ?_)
  rcases (show ((-1 : Int) ≤ x4.toInt ∧ x4.toInt ≤ (-1 : Int)) ∨ ((0 : Int) ≤ x4.toInt ∧ x4.toInt ≤ (19 : Int)) ∨ ((20 : Int) ≤ x4.toInt ∧ x4.toInt ≤ (20 : Int)) ∨ ((21 : Int) ≤ x4.toInt ∧ x4.toInt ≤ (21 : Int)) by omega) with r13 | r13 | r13 | r13
  · have _h9 := 0
    refine lv_aload hx hb dX16_say_133 (lv_at hl 4 rfl) ?_
    refine lv_iload hx hb dX16_say_135 (lv_at hl 0 rfl) ?_
    have hPc := hP.sub (ws' := []) [] rfl
    have hDc := hD.sub (ws' := []) [] (by decide) rfl
    have hKc := hK.sub (tys' := []) [] rfl
    have hFc := va_free (wc := []) hD hS hA [] rfl
    refine va_callr (va_runS (As := [.ref t9, .int x4]) (rest := []) ⟨hx, hb, hml, hown, hts⟩ (kX16_said_5 l dC dI g H.size t9 x4 ⟨by omega, by omega⟩) (va_cwS 2 hts (ns_gp (List.forall_mem_cons.mpr ⟨wm655, (List.forall_mem_cons.mpr ⟨wm656, (List.forall_mem_cons.mpr ⟨wm192, (fun _ h9 => nomatch h9)⟩)⟩)⟩) wm604) rfl rfl rfl (by decide +kernel) ⟨Nat.le_of_ble_eq_true rfl, Nat.le_of_ble_eq_true rfl⟩) ⟨fun a U gg mk q => by obtain ⟨q0, q1, qP, qK, qD, qF⟩ := q; exact ⟨q0, q1, qP, va_K.moved (u := U) (U := U.calling gg mk a) (Vm.Alike.refl U.vm) qK, qD, ns_same qF⟩, fun U hU hW => ⟨rfl, by rw [hU], by rw [hU]; exact hPc, va_K.moved hW.alike hKc, hDc.weaken (fun _ _ _ _ => trivial), ns_call hF hS hFc hU hW⟩⟩ rfl rfl hl.1 rfl (lv_room (Nat.le_of_ble_eq_true rfl)) dX16_say_137 ⟨Nat.le_of_ble_eq_true rfl, Nat.le_of_ble_eq_true rfl⟩) hS (fun q _ h => hFc q h) hFc (fun u r9 t H1 locs ht hvm hw hB hz1 hk1 hS => ?_)
    obtain ⟨hr9, hP1, hK1, hD1⟩ := hB
    obtain rfl := hr9.symm
    rw [ht] at hP1
    have hK1 := va_K.moved hvm.symm hK1
    obtain ⟨hP, hD⟩ := va_join (wr := [(h0, .inr (23, [.int 0, v1, v2, v3, .ref (g 34), v4, v5, v6, v7])), (q1, .inl (cyq1, 6, .inl (upd (upd (upd (upd (upd (upd (fun _ => 0) 0 x0) 1 x1) 2 x2) 3 x3) 4 x4) 5 x5))), (t9, .inr (0, [.ref b9, .int 0, .int 0, .int 0])), (b9, .inl (cb9, 3, .inl fb9))]) (w1 := []) hP hD [] [0, 1, 2, 3] rfl rfl (by decide) (by decide) hk1 hFc hP1 hD1
    have hK := (hK.sub (tys' := [(cyq1, .int), (cb9, .byte)]) [0, 1] rfl).app hK1
    generalize H1 = H at hP hS ⊢
    have hP : va_P (dC, dI) vwCl [(h0, .inr (23, [.int 0, v1, v2, v3, .ref (g 34), v4, v5, v6, v7])), (q1, .inl (cyq1, 6, .inl (upd (upd (upd (upd (upd (upd (fun _ => 0) 0 x0) 1 x1) 2 x2) 3 x3) 4 x4) 5 x5))), (t9, .inr (0, [.ref b9, .int 0, .int 0, .int 0])), (b9, .inl (cb9, 3, .inl fb9))] H := hP
    have hD : va_D A [(h0, .inr (23, [.int 0, v1, v2, v3, .ref (g 34), v4, v5, v6, v7])), (q1, .inl (cyq1, 6, .inl (upd (upd (upd (upd (upd (upd (fun _ => 0) 0 x0) 1 x1) 2 x2) 3 x3) 4 x4) 5 x5))), (t9, .inr (0, [.ref b9, .int 0, .int 0, .int 0])), (b9, .inl (cb9, 3, .inl fb9))] := hD
    have hK : va_K (dC, dI) vwCl [(cyq1, .int), (cb9, .byte)] s := hK
    refine W.widen (k := 25) (n := 166) (Nat.le_of_ble_eq_true rfl) (Nat.le_of_ble_eq_true rfl) ?_
    refine lv_astore (lv' := [(9, .ref t9), (13, .int x4), (12, .int 4), (11, .int 6), (10, .ref q1), (0, .ref h0)]) hx hb dX16_say_140 hl (by decide) rfl (fun ls hl => ?_)
    refine lv_aload_n hx hb dX16_say_142 rfl (lv_at hl 5 rfl) ?_
    refine lv_aload hx hb dX16_say_143 (lv_at hl 0 rfl) ?_
    have hPc := hP.sub (ws' := [(t9, .inr (0, [.ref b9, .int 0, .int 0, .int 0])), (b9, .inl (cb9, 3, .inl fb9))]) [2, 3] rfl
    have hDc := hD.sub (ws' := [(t9, .inr (0, [.ref b9, .int 0, .int 0, .int 0])), (b9, .inl (cb9, 3, .inl fb9))]) [2, 3] (by decide) rfl
    have hKc := hK.sub (tys' := [(cb9, .byte)]) [1] rfl
    have hFc := va_free (wc := [(t9, .inr (0, [.ref b9, .int 0, .int 0, .int 0])), (b9, .inl (cb9, 3, .inl fb9))]) hD hS hA [2, 3] rfl
    refine va_calli (va_runV (As := []) (rest := [.ref h0]) ⟨hx, hb, hml, hown, hts⟩ (kJ0_length_8abf5_5 l dC dI g H.size t9 b9 (.int 0) (.int 0) cb9 fb9 hb9 ) (cwV 0 hts (ns_gp (List.forall_mem_cons.mpr ⟨wm646, (List.forall_mem_cons.mpr ⟨wm595, (List.forall_mem_cons.mpr ⟨wm596, (List.forall_mem_cons.mpr ⟨wm316, (fun _ h9 => nomatch h9)⟩)⟩)⟩)⟩) wm574) rfl rfl rfl (by decide +kernel) ⟨Nat.le_of_ble_eq_true rfl, Nat.le_of_ble_eq_true rfl⟩) ⟨fun a U gg mk q => by obtain ⟨q0, q1, qP, qK, qD, qF⟩ := q; exact ⟨q0, q1, qP, va_K.moved (u := U) (U := U.calling gg mk a) (Vm.Alike.refl U.vm) qK, qD, ns_same qF⟩, va_recv hK hP (ci := 0) (q0 := 2) rfl rfl, fun U hU hW => ⟨rfl, by rw [hU], by rw [hU]; exact hPc, va_K.moved hW.alike hKc, hDc.weaken (fun _ _ _ _ => trivial), ns_call hF hS hFc hU hW⟩⟩ rfl rfl hl.1 rfl (lv_room (Nat.le_of_ble_eq_true rfl)) dX16_say_145 ⟨Nat.le_of_ble_eq_true rfl, Nat.le_of_ble_eq_true rfl⟩) hS (fun q _ h => hFc q h) hFc (fun r9 u t H1 locs ht hvm hw hB hz1 hk1 hS => ?_)
    obtain rfl := hw.symm
    obtain ⟨hP1, hK1, hD1⟩ := hB
    rw [ht] at hP1
    have hK1 := va_K.moved hvm.symm hK1
    obtain ⟨hP, hD⟩ := va_join (wr := [(h0, .inr (23, [.int 0, v1, v2, v3, .ref (g 34), v4, v5, v6, v7])), (q1, .inl (cyq1, 6, .inl (upd (upd (upd (upd (upd (upd (fun _ => 0) 0 x0) 1 x1) 2 x2) 3 x3) 4 x4) 5 x5)))]) (w1 := [(b9, .inl (cb9, 3, .inl fb9)), (t9, .inr (0, [.ref b9, .int 0, .int 0, .int 0]))]) hP hD [2, 3] [0, 1] rfl rfl (by decide) (by decide) hk1 hFc hP1 hD1
    have hK := (hK.sub (tys' := [(cyq1, .int)]) [0] rfl).app hK1
    generalize H1 = H at hP hS ⊢
    have hP : va_P (dC, dI) vwCl [(h0, .inr (23, [.int 0, v1, v2, v3, .ref (g 34), v4, v5, v6, v7])), (q1, .inl (cyq1, 6, .inl (upd (upd (upd (upd (upd (upd (fun _ => 0) 0 x0) 1 x1) 2 x2) 3 x3) 4 x4) 5 x5))), (b9, .inl (cb9, 3, .inl fb9)), (t9, .inr (0, [.ref b9, .int 0, .int 0, .int 0]))] H := hP
    have hD : va_D A [(h0, .inr (23, [.int 0, v1, v2, v3, .ref (g 34), v4, v5, v6, v7])), (q1, .inl (cyq1, 6, .inl (upd (upd (upd (upd (upd (upd (fun _ => 0) 0 x0) 1 x1) 2 x2) 3 x3) 4 x4) 5 x5))), (b9, .inl (cb9, 3, .inl fb9)), (t9, .inr (0, [.ref b9, .int 0, .int 0, .int 0]))] := hD
    have hK : va_K (dC, dI) vwCl [(cyq1, .int), (cb9, .byte)] s := hK
    refine W.widen (k := 25) (n := 166) (Nat.le_of_ble_eq_true rfl) (Nat.le_of_ble_eq_true rfl) ?_
    refine lv_bipush (v := 60) hx hb dX16_say_148 (by decide) ?_
    refine lv_icmp_le (tgt := 157) hx hb dX16_say_150 (by decide) (fun c1003 => ?_) (fun c1003 => absurd (by decide) c1003)
    refine lv_iconst (v := 0) hx hb dX16_say_157 (by decide) ?_
    refine lv_iconst (v := 2) hx hb dX16_say_158 (by decide) ?_
    have hPc := hP.sub (ws' := [(h0, .inr (23, [.int 0, v1, v2, v3, .ref (g 34), v4, v5, v6, v7]))]) [0] rfl
    have hDc := hD.sub (ws' := [(h0, .inr (23, [.int 0, v1, v2, v3, .ref (g 34), v4, v5, v6, v7]))]) [0] (by decide) rfl
    have hKc := hK.sub (tys' := []) [] rfl
    have hFc := va_free (wc := [(h0, .inr (23, [.int 0, v1, v2, v3, .ref (g 34), v4, v5, v6, v7]))]) hD hS hA [0] rfl
    refine va_calli (va_runV (As := [.int 0, .int 2]) (rest := []) ⟨hx, hb, hml, hown, hts⟩ (kX16_refuse_3 l dC dI g H.size h0 v1 v2 v3 (.ref (g 34)) v4 v5 v6 v7 ) (cwV 2 hts (ns_gp (List.forall_mem_cons.mpr ⟨wm236, (List.forall_mem_cons.mpr ⟨wm237, (List.forall_mem_cons.mpr ⟨wm238, (List.forall_mem_cons.mpr ⟨wm192, (fun _ h9 => nomatch h9)⟩)⟩)⟩)⟩) wm235) rfl rfl rfl (by decide +kernel) ⟨Nat.le_of_ble_eq_true rfl, Nat.le_of_ble_eq_true rfl⟩) ⟨fun a U gg mk q => by obtain ⟨q0, q1, qP, qK, qD, qF⟩ := q; exact ⟨q0, q1, qP, va_K.moved (u := U) (U := U.calling gg mk a) (Vm.Alike.refl U.vm) qK, qD, ns_same qF⟩, va_recv hK hP (ci := 23) (q0 := 0) rfl rfl, fun U hU hW => ⟨rfl, by rw [hU], by rw [hU]; exact hPc, va_K.moved hW.alike hKc, hDc.weaken (fun _ _ _ _ => trivial), ns_call hF hS hFc hU hW⟩⟩ rfl rfl hl.1 rfl (lv_room (Nat.le_of_ble_eq_true rfl)) dX16_say_159 ⟨Nat.le_of_ble_eq_true rfl, Nat.le_of_ble_eq_true rfl⟩) hS (fun q _ h => hFc q h) hFc (fun r9 u t H1 locs ht hvm hw hB hz1 hk1 hS => ?_)
    obtain rfl := hw.symm
    obtain ⟨hP1, hK1, hD1⟩ := hB
    rw [ht] at hP1
    have hK1 := va_K.moved hvm.symm hK1
    obtain ⟨hP, hD⟩ := va_join (wr := [(q1, .inl (cyq1, 6, .inl (upd (upd (upd (upd (upd (upd (fun _ => 0) 0 x0) 1 x1) 2 x2) 3 x3) 4 x4) 5 x5))), (b9, .inl (cb9, 3, .inl fb9)), (t9, .inr (0, [.ref b9, .int 0, .int 0, .int 0]))]) (w1 := [(h0, .inr (23, [.int 0, v1, v2, v3, .ref (g 34), v4, v5, v6, v7]))]) hP hD [0] [1, 2, 3] rfl rfl (by decide) (by decide) hk1 hFc hP1 hD1
    have hK := (hK.sub (tys' := [(cyq1, .int), (cb9, .byte)]) [0, 1] rfl).app hK1
    generalize H1 = H at hP hS ⊢
    have hP : va_P (dC, dI) vwCl [(q1, .inl (cyq1, 6, .inl (upd (upd (upd (upd (upd (upd (fun _ => 0) 0 x0) 1 x1) 2 x2) 3 x3) 4 x4) 5 x5))), (b9, .inl (cb9, 3, .inl fb9)), (t9, .inr (0, [.ref b9, .int 0, .int 0, .int 0])), (h0, .inr (23, [.int 0, v1, v2, v3, .ref (g 34), v4, v5, v6, v7]))] H := hP
    have hD : va_D A [(q1, .inl (cyq1, 6, .inl (upd (upd (upd (upd (upd (upd (fun _ => 0) 0 x0) 1 x1) 2 x2) 3 x3) 4 x4) 5 x5))), (b9, .inl (cb9, 3, .inl fb9)), (t9, .inr (0, [.ref b9, .int 0, .int 0, .int 0])), (h0, .inr (23, [.int 0, v1, v2, v3, .ref (g 34), v4, v5, v6, v7]))] := hD
    have hK : va_K (dC, dI) vwCl [(cyq1, .int), (cb9, .byte)] s := hK
    refine W.widen (k := 25) (n := 166) (Nat.le_of_ble_eq_true rfl) (Nat.le_of_ble_eq_true rfl) ?_
    refine lv_if_eq (tgt := 167) hx hb dX16_say_162 (by decide) (fun c1004 => ?_) (fun c1004 => absurd (by decide) c1004)
    refine lv_iinc (v := 5) (lv' := [(12, .int 5), (9, .ref t9), (13, .int x4), (11, .int 6), (10, .ref q1), (0, .ref h0)]) hx hb dX16_say_167 hl (k := 2) rfl (by decide) (by decide) rfl (fun ls hl => ?_)
    refine lv_goto (tgt := 119) hx hb dX16_say_170 (by decide) ?_
    have hP := hP.sub (ws' := [(h0, .inr (23, [.int 0, v1, v2, v3, .ref (g 34), v4, v5, v6, v7])), (q1, .inl (cyq1, 6, .inl (upd (upd (upd (upd (upd (upd (fun _ => 0) 0 x0) 1 x1) 2 x2) 3 x3) 4 x4) 5 x5))), (t9, .inr (0, [.ref b9, .int 0, .int 0, .int 0])), (b9, .inl (cb9, 3, .inl fb9))]) [3, 0, 2, 1] rfl
    have hD := hD.sub (ws' := [(h0, .inr (23, [.int 0, v1, v2, v3, .ref (g 34), v4, v5, v6, v7])), (q1, .inl (cyq1, 6, .inl (upd (upd (upd (upd (upd (upd (fun _ => 0) 0 x0) 1 x1) 2 x2) 3 x3) 4 x4) 5 x5))), (t9, .inr (0, [.ref b9, .int 0, .int 0, .int 0])), (b9, .inl (cb9, 3, .inl fb9))]) [3, 0, 2, 1] (by decide) rfl
    have hK := hK.sub (tys' := [(cyq1, .int), (cb9, .byte)]) [0, 1] rfl
    have hl := lv_sub hl (l' := [(12, .int 5), (11, .int 6), (10, .ref q1), (9, .ref t9), (0, .ref h0)]) [0, 3, 4, 1, 5] rfl
    refine W.widen (k := 31) (n := 206) (Nat.le_of_ble_eq_true rfl) (Nat.le_of_ble_eq_true rfl) ?_
    have hE2 : ns_len E9 x4 = 3 := by rw [hE]; exact ns_lenA x4 3 (by omega)
    exact ns_say_5_3 hb9 hE2 ex0 ex1 ex2 ex3 ex4 ex5 hx hb hml hown hts hA hF hK hP hD hS hl k09 k19 k29 k39 k49 k59 k69
  · have _h9 := 0
    refine lv_aload hx hb dX16_say_133 (lv_at hl 4 rfl) ?_
    refine lv_iload hx hb dX16_say_135 (lv_at hl 0 rfl) ?_
    have hPc := hP.sub (ws' := [(t9, .inr (0, [.ref b9, .int 0, .int 0, .int 0])), (b9, .inl (cb9, 3, .inl fb9))]) [2, 3] rfl
    have hDc := hD.sub (ws' := [(t9, .inr (0, [.ref b9, .int 0, .int 0, .int 0])), (b9, .inl (cb9, 3, .inl fb9))]) [2, 3] (by decide) rfl
    have hKc := hK.sub (tys' := [(cb9, .byte)]) [1] rfl
    have hFc := va_free (wc := [(t9, .inr (0, [.ref b9, .int 0, .int 0, .int 0])), (b9, .inl (cb9, 3, .inl fb9))]) hD hS hA [2, 3] rfl
    refine va_callr (va_runS (As := [.ref t9, .int x4]) (rest := []) ⟨hx, hb, hml, hown, hts⟩ (kX16_said_11 l dC dI g H.size t9 x4 b9 (.int 0) (.int 0) cb9 fb9 hb9 ⟨by omega, by omega⟩) (va_cwS 2 hts (ns_gp (List.forall_mem_cons.mpr ⟨wm655, (List.forall_mem_cons.mpr ⟨wm656, (List.forall_mem_cons.mpr ⟨wm192, (fun _ h9 => nomatch h9)⟩)⟩)⟩) wm604) rfl rfl rfl (by decide +kernel) ⟨Nat.le_of_ble_eq_true rfl, Nat.le_of_ble_eq_true rfl⟩) ⟨fun a U gg mk q => by obtain ⟨q0, q1, qP, qK, qD, qF⟩ := q; exact ⟨q0, q1, qP, va_K.moved (u := U) (U := U.calling gg mk a) (Vm.Alike.refl U.vm) qK, qD, ns_same qF⟩, fun U hU hW => ⟨rfl, by rw [hU], by rw [hU]; exact hPc, va_K.moved hW.alike hKc, hDc.weaken (fun _ _ _ _ => trivial), ns_call hF hS hFc hU hW⟩⟩ rfl rfl hl.1 rfl (lv_room (Nat.le_of_ble_eq_true rfl)) dX16_say_137 ⟨Nat.le_of_ble_eq_true rfl, Nat.le_of_ble_eq_true rfl⟩) hS (fun q _ h => hFc q h) hFc (fun u r9 t H1 locs ht hvm hw hB hz1 hk1 hS => ?_)
    obtain ⟨q1005, q1006, cy1007, q1008, q1009, cy1010, hr9, hP1, hK1, hD1⟩ := hB
    obtain rfl := hr9.symm
    rw [ht] at hP1
    have hK1 := va_K.moved hvm.symm hK1
    obtain ⟨hP, hD⟩ := va_join (wr := [(h0, .inr (23, [.int 0, v1, v2, v3, .ref (g 34), v4, v5, v6, v7])), (q1, .inl (cyq1, 6, .inl (upd (upd (upd (upd (upd (upd (fun _ => 0) 0 x0) 1 x1) 2 x2) 3 x3) 4 x4) 5 x5)))]) (w1 := [(b9, .inl (cb9, 3, .inl fb9)), (t9, .inr (0, [.ref b9, .int 0, .int 0, .int 0])), (q1008, .inr (0, [.ref q1009, .int 0, .int 0, .int 0])), (q1005, .inr (1, [.ref q1006, .int 0, .int 0, .int 4])), (q1006, .inl (cy1007, 16, .inl (upd ((va_cpy (fb9) ((fun _ => 0)) 0 0 3)) 3 (vp_nar .byte (ns_ch x4).toInt8.toInt32)))), (q1009, .inl (cy1010, 4, .inl (va_cpy ((upd ((va_cpy (fb9) ((fun _ => 0)) 0 0 3)) 3 (vp_nar .byte (ns_ch x4).toInt8.toInt32))) (fun _ => 0) 0 0 4)))]) hP hD [2, 3] [0, 1] rfl rfl (by decide) (by decide) hk1 hFc hP1 hD1
    have hK := (hK.sub (tys' := [(cyq1, .int)]) [0] rfl).app hK1
    generalize H1 = H at hP hS ⊢
    have hP : va_P (dC, dI) vwCl [(h0, .inr (23, [.int 0, v1, v2, v3, .ref (g 34), v4, v5, v6, v7])), (q1, .inl (cyq1, 6, .inl (upd (upd (upd (upd (upd (upd (fun _ => 0) 0 x0) 1 x1) 2 x2) 3 x3) 4 x4) 5 x5))), (b9, .inl (cb9, 3, .inl fb9)), (t9, .inr (0, [.ref b9, .int 0, .int 0, .int 0])), (q1008, .inr (0, [.ref q1009, .int 0, .int 0, .int 0])), (q1005, .inr (1, [.ref q1006, .int 0, .int 0, .int 4])), (q1006, .inl (cy1007, 16, .inl (upd ((va_cpy (fb9) ((fun _ => 0)) 0 0 3)) 3 (vp_nar .byte (ns_ch x4).toInt8.toInt32)))), (q1009, .inl (cy1010, 4, .inl (va_cpy ((upd ((va_cpy (fb9) ((fun _ => 0)) 0 0 3)) 3 (vp_nar .byte (ns_ch x4).toInt8.toInt32))) (fun _ => 0) 0 0 4)))] H := hP
    have hD : va_D A [(h0, .inr (23, [.int 0, v1, v2, v3, .ref (g 34), v4, v5, v6, v7])), (q1, .inl (cyq1, 6, .inl (upd (upd (upd (upd (upd (upd (fun _ => 0) 0 x0) 1 x1) 2 x2) 3 x3) 4 x4) 5 x5))), (b9, .inl (cb9, 3, .inl fb9)), (t9, .inr (0, [.ref b9, .int 0, .int 0, .int 0])), (q1008, .inr (0, [.ref q1009, .int 0, .int 0, .int 0])), (q1005, .inr (1, [.ref q1006, .int 0, .int 0, .int 4])), (q1006, .inl (cy1007, 16, .inl (upd ((va_cpy (fb9) ((fun _ => 0)) 0 0 3)) 3 (vp_nar .byte (ns_ch x4).toInt8.toInt32)))), (q1009, .inl (cy1010, 4, .inl (va_cpy ((upd ((va_cpy (fb9) ((fun _ => 0)) 0 0 3)) 3 (vp_nar .byte (ns_ch x4).toInt8.toInt32))) (fun _ => 0) 0 0 4)))] := hD
    have hK : va_K (dC, dI) vwCl [(cyq1, .int), (cb9, .byte), (cy1007, .byte), (cy1010, .byte)] s := hK
    refine W.widen (k := 29) (n := 194) (Nat.le_of_ble_eq_true rfl) (Nat.le_of_ble_eq_true rfl) ?_
    refine lv_astore (lv' := [(9, .ref q1008), (13, .int x4), (12, .int 4), (11, .int 6), (10, .ref q1), (0, .ref h0)]) hx hb dX16_say_140 hl (by decide) rfl (fun ls hl => ?_)
    refine lv_aload_n hx hb dX16_say_142 rfl (lv_at hl 5 rfl) ?_
    refine lv_aload hx hb dX16_say_143 (lv_at hl 0 rfl) ?_
    have hPc := hP.sub (ws' := [(q1008, .inr (0, [.ref q1009, .int 0, .int 0, .int 0])), (q1009, .inl (cy1010, 4, .inl (va_cpy ((upd ((va_cpy (fb9) ((fun _ => 0)) 0 0 3)) 3 (vp_nar .byte (ns_ch x4).toInt8.toInt32))) (fun _ => 0) 0 0 4)))]) [4, 7] rfl
    have hDc := hD.sub (ws' := [(q1008, .inr (0, [.ref q1009, .int 0, .int 0, .int 0])), (q1009, .inl (cy1010, 4, .inl (va_cpy ((upd ((va_cpy (fb9) ((fun _ => 0)) 0 0 3)) 3 (vp_nar .byte (ns_ch x4).toInt8.toInt32))) (fun _ => 0) 0 0 4)))]) [4, 7] (by decide) rfl
    have hKc := hK.sub (tys' := [(cy1010, .byte)]) [3] rfl
    have hFc := va_free (wc := [(q1008, .inr (0, [.ref q1009, .int 0, .int 0, .int 0])), (q1009, .inl (cy1010, 4, .inl (va_cpy ((upd ((va_cpy (fb9) ((fun _ => 0)) 0 0 3)) 3 (vp_nar .byte (ns_ch x4).toInt8.toInt32))) (fun _ => 0) 0 0 4)))]) hD hS hA [4, 7] rfl
    refine va_calli (va_runV (As := []) (rest := [.ref h0]) ⟨hx, hb, hml, hown, hts⟩ (kJ0_length_8abf5_6 l dC dI g H.size q1008 q1009 (.int 0) (.int 0) cy1010 (va_cpy ((upd ((va_cpy (fb9) ((fun _ => 0)) 0 0 3)) 3 (vp_nar .byte (ns_ch x4).toInt8.toInt32))) (fun _ => 0) 0 0 4) (sb_fitC (sb_fitU (sb_fitC hb9 sb_fit0) (pk_fb _)) sb_fit0) ) (cwV 0 hts (ns_gp (List.forall_mem_cons.mpr ⟨wm646, (List.forall_mem_cons.mpr ⟨wm595, (List.forall_mem_cons.mpr ⟨wm596, (List.forall_mem_cons.mpr ⟨wm316, (fun _ h9 => nomatch h9)⟩)⟩)⟩)⟩) wm574) rfl rfl rfl (by decide +kernel) ⟨Nat.le_of_ble_eq_true rfl, Nat.le_of_ble_eq_true rfl⟩) ⟨fun a U gg mk q => by obtain ⟨q0, q1, qP, qK, qD, qF⟩ := q; exact ⟨q0, q1, qP, va_K.moved (u := U) (U := U.calling gg mk a) (Vm.Alike.refl U.vm) qK, qD, ns_same qF⟩, va_recv hK hP (ci := 0) (q0 := 4) rfl rfl, fun U hU hW => ⟨rfl, by rw [hU], by rw [hU]; exact hPc, va_K.moved hW.alike hKc, hDc.weaken (fun _ _ _ _ => trivial), ns_call hF hS hFc hU hW⟩⟩ rfl rfl hl.1 rfl (lv_room (Nat.le_of_ble_eq_true rfl)) dX16_say_145 ⟨Nat.le_of_ble_eq_true rfl, Nat.le_of_ble_eq_true rfl⟩) hS (fun q _ h => hFc q h) hFc (fun r9 u t H1 locs ht hvm hw hB hz1 hk1 hS => ?_)
    obtain rfl := hw.symm
    obtain ⟨hP1, hK1, hD1⟩ := hB
    rw [ht] at hP1
    have hK1 := va_K.moved hvm.symm hK1
    obtain ⟨hP, hD⟩ := va_join (wr := [(h0, .inr (23, [.int 0, v1, v2, v3, .ref (g 34), v4, v5, v6, v7])), (q1, .inl (cyq1, 6, .inl (upd (upd (upd (upd (upd (upd (fun _ => 0) 0 x0) 1 x1) 2 x2) 3 x3) 4 x4) 5 x5))), (b9, .inl (cb9, 3, .inl fb9)), (t9, .inr (0, [.ref b9, .int 0, .int 0, .int 0])), (q1005, .inr (1, [.ref q1006, .int 0, .int 0, .int 4])), (q1006, .inl (cy1007, 16, .inl (upd ((va_cpy (fb9) ((fun _ => 0)) 0 0 3)) 3 (vp_nar .byte (ns_ch x4).toInt8.toInt32))))]) (w1 := [(q1009, .inl (cy1010, 4, .inl (va_cpy ((upd ((va_cpy (fb9) ((fun _ => 0)) 0 0 3)) 3 (vp_nar .byte (ns_ch x4).toInt8.toInt32))) (fun _ => 0) 0 0 4))), (q1008, .inr (0, [.ref q1009, .int 0, .int 0, .int 0]))]) hP hD [4, 7] [0, 1, 2, 3, 5, 6] rfl rfl (by decide) (by decide) hk1 hFc hP1 hD1
    have hK := (hK.sub (tys' := [(cyq1, .int), (cb9, .byte), (cy1007, .byte)]) [0, 1, 2] rfl).app hK1
    generalize H1 = H at hP hS ⊢
    have hP : va_P (dC, dI) vwCl [(h0, .inr (23, [.int 0, v1, v2, v3, .ref (g 34), v4, v5, v6, v7])), (q1, .inl (cyq1, 6, .inl (upd (upd (upd (upd (upd (upd (fun _ => 0) 0 x0) 1 x1) 2 x2) 3 x3) 4 x4) 5 x5))), (b9, .inl (cb9, 3, .inl fb9)), (t9, .inr (0, [.ref b9, .int 0, .int 0, .int 0])), (q1005, .inr (1, [.ref q1006, .int 0, .int 0, .int 4])), (q1006, .inl (cy1007, 16, .inl (upd ((va_cpy (fb9) ((fun _ => 0)) 0 0 3)) 3 (vp_nar .byte (ns_ch x4).toInt8.toInt32)))), (q1009, .inl (cy1010, 4, .inl (va_cpy ((upd ((va_cpy (fb9) ((fun _ => 0)) 0 0 3)) 3 (vp_nar .byte (ns_ch x4).toInt8.toInt32))) (fun _ => 0) 0 0 4))), (q1008, .inr (0, [.ref q1009, .int 0, .int 0, .int 0]))] H := hP
    have hD : va_D A [(h0, .inr (23, [.int 0, v1, v2, v3, .ref (g 34), v4, v5, v6, v7])), (q1, .inl (cyq1, 6, .inl (upd (upd (upd (upd (upd (upd (fun _ => 0) 0 x0) 1 x1) 2 x2) 3 x3) 4 x4) 5 x5))), (b9, .inl (cb9, 3, .inl fb9)), (t9, .inr (0, [.ref b9, .int 0, .int 0, .int 0])), (q1005, .inr (1, [.ref q1006, .int 0, .int 0, .int 4])), (q1006, .inl (cy1007, 16, .inl (upd ((va_cpy (fb9) ((fun _ => 0)) 0 0 3)) 3 (vp_nar .byte (ns_ch x4).toInt8.toInt32)))), (q1009, .inl (cy1010, 4, .inl (va_cpy ((upd ((va_cpy (fb9) ((fun _ => 0)) 0 0 3)) 3 (vp_nar .byte (ns_ch x4).toInt8.toInt32))) (fun _ => 0) 0 0 4))), (q1008, .inr (0, [.ref q1009, .int 0, .int 0, .int 0]))] := hD
    have hK : va_K (dC, dI) vwCl [(cyq1, .int), (cb9, .byte), (cy1007, .byte), (cy1010, .byte)] s := hK
    refine W.widen (k := 29) (n := 194) (Nat.le_of_ble_eq_true rfl) (Nat.le_of_ble_eq_true rfl) ?_
    refine lv_bipush (v := 60) hx hb dX16_say_148 (by decide) ?_
    refine lv_icmp_le (tgt := 157) hx hb dX16_say_150 (by decide) (fun c1011 => ?_) (fun c1011 => absurd (by decide) c1011)
    refine lv_iconst (v := 0) hx hb dX16_say_157 (by decide) ?_
    refine lv_iconst (v := 2) hx hb dX16_say_158 (by decide) ?_
    have hPc := hP.sub (ws' := [(h0, .inr (23, [.int 0, v1, v2, v3, .ref (g 34), v4, v5, v6, v7]))]) [0] rfl
    have hDc := hD.sub (ws' := [(h0, .inr (23, [.int 0, v1, v2, v3, .ref (g 34), v4, v5, v6, v7]))]) [0] (by decide) rfl
    have hKc := hK.sub (tys' := []) [] rfl
    have hFc := va_free (wc := [(h0, .inr (23, [.int 0, v1, v2, v3, .ref (g 34), v4, v5, v6, v7]))]) hD hS hA [0] rfl
    refine va_calli (va_runV (As := [.int 0, .int 2]) (rest := []) ⟨hx, hb, hml, hown, hts⟩ (kX16_refuse_3 l dC dI g H.size h0 v1 v2 v3 (.ref (g 34)) v4 v5 v6 v7 ) (cwV 2 hts (ns_gp (List.forall_mem_cons.mpr ⟨wm236, (List.forall_mem_cons.mpr ⟨wm237, (List.forall_mem_cons.mpr ⟨wm238, (List.forall_mem_cons.mpr ⟨wm192, (fun _ h9 => nomatch h9)⟩)⟩)⟩)⟩) wm235) rfl rfl rfl (by decide +kernel) ⟨Nat.le_of_ble_eq_true rfl, Nat.le_of_ble_eq_true rfl⟩) ⟨fun a U gg mk q => by obtain ⟨q0, q1, qP, qK, qD, qF⟩ := q; exact ⟨q0, q1, qP, va_K.moved (u := U) (U := U.calling gg mk a) (Vm.Alike.refl U.vm) qK, qD, ns_same qF⟩, va_recv hK hP (ci := 23) (q0 := 0) rfl rfl, fun U hU hW => ⟨rfl, by rw [hU], by rw [hU]; exact hPc, va_K.moved hW.alike hKc, hDc.weaken (fun _ _ _ _ => trivial), ns_call hF hS hFc hU hW⟩⟩ rfl rfl hl.1 rfl (lv_room (Nat.le_of_ble_eq_true rfl)) dX16_say_159 ⟨Nat.le_of_ble_eq_true rfl, Nat.le_of_ble_eq_true rfl⟩) hS (fun q _ h => hFc q h) hFc (fun r9 u t H1 locs ht hvm hw hB hz1 hk1 hS => ?_)
    obtain rfl := hw.symm
    obtain ⟨hP1, hK1, hD1⟩ := hB
    rw [ht] at hP1
    have hK1 := va_K.moved hvm.symm hK1
    obtain ⟨hP, hD⟩ := va_join (wr := [(q1, .inl (cyq1, 6, .inl (upd (upd (upd (upd (upd (upd (fun _ => 0) 0 x0) 1 x1) 2 x2) 3 x3) 4 x4) 5 x5))), (b9, .inl (cb9, 3, .inl fb9)), (t9, .inr (0, [.ref b9, .int 0, .int 0, .int 0])), (q1005, .inr (1, [.ref q1006, .int 0, .int 0, .int 4])), (q1006, .inl (cy1007, 16, .inl (upd ((va_cpy (fb9) ((fun _ => 0)) 0 0 3)) 3 (vp_nar .byte (ns_ch x4).toInt8.toInt32)))), (q1009, .inl (cy1010, 4, .inl (va_cpy ((upd ((va_cpy (fb9) ((fun _ => 0)) 0 0 3)) 3 (vp_nar .byte (ns_ch x4).toInt8.toInt32))) (fun _ => 0) 0 0 4))), (q1008, .inr (0, [.ref q1009, .int 0, .int 0, .int 0]))]) (w1 := [(h0, .inr (23, [.int 0, v1, v2, v3, .ref (g 34), v4, v5, v6, v7]))]) hP hD [0] [1, 2, 3, 4, 5, 6, 7] rfl rfl (by decide) (by decide) hk1 hFc hP1 hD1
    have hK := (hK.sub (tys' := [(cyq1, .int), (cb9, .byte), (cy1007, .byte), (cy1010, .byte)]) [0, 1, 2, 3] rfl).app hK1
    generalize H1 = H at hP hS ⊢
    have hP : va_P (dC, dI) vwCl [(q1, .inl (cyq1, 6, .inl (upd (upd (upd (upd (upd (upd (fun _ => 0) 0 x0) 1 x1) 2 x2) 3 x3) 4 x4) 5 x5))), (b9, .inl (cb9, 3, .inl fb9)), (t9, .inr (0, [.ref b9, .int 0, .int 0, .int 0])), (q1005, .inr (1, [.ref q1006, .int 0, .int 0, .int 4])), (q1006, .inl (cy1007, 16, .inl (upd ((va_cpy (fb9) ((fun _ => 0)) 0 0 3)) 3 (vp_nar .byte (ns_ch x4).toInt8.toInt32)))), (q1009, .inl (cy1010, 4, .inl (va_cpy ((upd ((va_cpy (fb9) ((fun _ => 0)) 0 0 3)) 3 (vp_nar .byte (ns_ch x4).toInt8.toInt32))) (fun _ => 0) 0 0 4))), (q1008, .inr (0, [.ref q1009, .int 0, .int 0, .int 0])), (h0, .inr (23, [.int 0, v1, v2, v3, .ref (g 34), v4, v5, v6, v7]))] H := hP
    have hD : va_D A [(q1, .inl (cyq1, 6, .inl (upd (upd (upd (upd (upd (upd (fun _ => 0) 0 x0) 1 x1) 2 x2) 3 x3) 4 x4) 5 x5))), (b9, .inl (cb9, 3, .inl fb9)), (t9, .inr (0, [.ref b9, .int 0, .int 0, .int 0])), (q1005, .inr (1, [.ref q1006, .int 0, .int 0, .int 4])), (q1006, .inl (cy1007, 16, .inl (upd ((va_cpy (fb9) ((fun _ => 0)) 0 0 3)) 3 (vp_nar .byte (ns_ch x4).toInt8.toInt32)))), (q1009, .inl (cy1010, 4, .inl (va_cpy ((upd ((va_cpy (fb9) ((fun _ => 0)) 0 0 3)) 3 (vp_nar .byte (ns_ch x4).toInt8.toInt32))) (fun _ => 0) 0 0 4))), (q1008, .inr (0, [.ref q1009, .int 0, .int 0, .int 0])), (h0, .inr (23, [.int 0, v1, v2, v3, .ref (g 34), v4, v5, v6, v7]))] := hD
    have hK : va_K (dC, dI) vwCl [(cyq1, .int), (cb9, .byte), (cy1007, .byte), (cy1010, .byte)] s := hK
    refine W.widen (k := 29) (n := 194) (Nat.le_of_ble_eq_true rfl) (Nat.le_of_ble_eq_true rfl) ?_
    refine lv_if_eq (tgt := 167) hx hb dX16_say_162 (by decide) (fun c1012 => ?_) (fun c1012 => absurd (by decide) c1012)
    refine lv_iinc (v := 5) (lv' := [(12, .int 5), (9, .ref q1008), (13, .int x4), (11, .int 6), (10, .ref q1), (0, .ref h0)]) hx hb dX16_say_167 hl (k := 2) rfl (by decide) (by decide) rfl (fun ls hl => ?_)
    refine lv_goto (tgt := 119) hx hb dX16_say_170 (by decide) ?_
    have hP := hP.sub (ws' := [(h0, .inr (23, [.int 0, v1, v2, v3, .ref (g 34), v4, v5, v6, v7])), (q1, .inl (cyq1, 6, .inl (upd (upd (upd (upd (upd (upd (fun _ => 0) 0 x0) 1 x1) 2 x2) 3 x3) 4 x4) 5 x5))), (q1008, .inr (0, [.ref q1009, .int 0, .int 0, .int 0])), (q1009, .inl (cy1010, 4, .inl (va_cpy ((upd ((va_cpy (fb9) ((fun _ => 0)) 0 0 3)) 3 (vp_nar .byte (ns_ch x4).toInt8.toInt32))) (fun _ => 0) 0 0 4)))]) [7, 0, 6, 5] rfl
    have hD := hD.sub (ws' := [(h0, .inr (23, [.int 0, v1, v2, v3, .ref (g 34), v4, v5, v6, v7])), (q1, .inl (cyq1, 6, .inl (upd (upd (upd (upd (upd (upd (fun _ => 0) 0 x0) 1 x1) 2 x2) 3 x3) 4 x4) 5 x5))), (q1008, .inr (0, [.ref q1009, .int 0, .int 0, .int 0])), (q1009, .inl (cy1010, 4, .inl (va_cpy ((upd ((va_cpy (fb9) ((fun _ => 0)) 0 0 3)) 3 (vp_nar .byte (ns_ch x4).toInt8.toInt32))) (fun _ => 0) 0 0 4)))]) [7, 0, 6, 5] (by decide) rfl
    have hK := hK.sub (tys' := [(cyq1, .int), (cy1010, .byte)]) [0, 3] rfl
    have hl := lv_sub hl (l' := [(12, .int 5), (11, .int 6), (10, .ref q1), (9, .ref q1008), (0, .ref h0)]) [0, 3, 4, 1, 5] rfl
    refine W.widen (k := 31) (n := 206) (Nat.le_of_ble_eq_true rfl) (Nat.le_of_ble_eq_true rfl) ?_
    have hE2 : ns_len E9 x4 = 4 := by rw [hE]; exact (ns_lenB x4 3 (by omega) (by omega)).trans (by decide)
    exact ns_say_5_4 (sb_fitC (sb_fitU (sb_fitC hb9 sb_fit0) (pk_fb _)) sb_fit0) hE2 ex0 ex1 ex2 ex3 ex4 ex5 hx hb hml hown hts hA hF hK hP hD hS hl k09 k19 k29 k39 k49 k59 k69
  · have _h9 := 0
    refine lv_aload hx hb dX16_say_133 (lv_at hl 4 rfl) ?_
    refine lv_iload hx hb dX16_say_135 (lv_at hl 0 rfl) ?_
    have hPc := hP.sub (ws' := [(t9, .inr (0, [.ref b9, .int 0, .int 0, .int 0])), (b9, .inl (cb9, 3, .inl fb9))]) [2, 3] rfl
    have hDc := hD.sub (ws' := [(t9, .inr (0, [.ref b9, .int 0, .int 0, .int 0])), (b9, .inl (cb9, 3, .inl fb9))]) [2, 3] (by decide) rfl
    have hKc := hK.sub (tys' := [(cb9, .byte)]) [1] rfl
    have hFc := va_free (wc := [(t9, .inr (0, [.ref b9, .int 0, .int 0, .int 0])), (b9, .inl (cb9, 3, .inl fb9))]) hD hS hA [2, 3] rfl
    refine va_callr (va_runS (As := [.ref t9, .int x4]) (rest := []) ⟨hx, hb, hml, hown, hts⟩ (kX16_said_12 l dC dI g H.size t9 x4 b9 (.int 0) (.int 0) cb9 fb9 hb9 ⟨by omega, by omega⟩) (va_cwS 2 hts (ns_gp (List.forall_mem_cons.mpr ⟨wm655, (List.forall_mem_cons.mpr ⟨wm656, (List.forall_mem_cons.mpr ⟨wm192, (fun _ h9 => nomatch h9)⟩)⟩)⟩) wm604) rfl rfl rfl (by decide +kernel) ⟨Nat.le_of_ble_eq_true rfl, Nat.le_of_ble_eq_true rfl⟩) ⟨fun a U gg mk q => by obtain ⟨q0, q1, qP, qK, qD, qF⟩ := q; exact ⟨q0, q1, qP, va_K.moved (u := U) (U := U.calling gg mk a) (Vm.Alike.refl U.vm) qK, qD, ns_same qF⟩, fun U hU hW => ⟨rfl, by rw [hU], by rw [hU]; exact hPc, va_K.moved hW.alike hKc, hDc.weaken (fun _ _ _ _ => trivial), ns_call hF hS hFc hU hW⟩⟩ rfl rfl hl.1 rfl (lv_room (Nat.le_of_ble_eq_true rfl)) dX16_say_137 ⟨Nat.le_of_ble_eq_true rfl, Nat.le_of_ble_eq_true rfl⟩) hS (fun q _ h => hFc q h) hFc (fun u r9 t H1 locs ht hvm hw hB hz1 hk1 hS => ?_)
    obtain ⟨q1013, q1014, cy1015, hr9, hP1, hK1, hD1⟩ := hB
    obtain rfl := hr9.symm
    rw [ht] at hP1
    have hK1 := va_K.moved hvm.symm hK1
    obtain ⟨hP, hD⟩ := va_join (wr := [(h0, .inr (23, [.int 0, v1, v2, v3, .ref (g 34), v4, v5, v6, v7])), (q1, .inl (cyq1, 6, .inl (upd (upd (upd (upd (upd (upd (fun _ => 0) 0 x0) 1 x1) 2 x2) 3 x3) 4 x4) 5 x5)))]) (w1 := [(t9, .inr (0, [.ref b9, .int 0, .int 0, .int 0])), (b9, .inl (cb9, 3, .inl fb9)), (q1014, .inl (cy1015, 2, .inl (va_cpy (fb9) (fun _ => 0) 0 0 2))), (q1013, .inr (0, [.ref q1014, .int 0, .int 0, .int 0]))]) hP hD [2, 3] [0, 1] rfl rfl (by decide) (by decide) hk1 hFc hP1 hD1
    have hK := (hK.sub (tys' := [(cyq1, .int)]) [0] rfl).app hK1
    generalize H1 = H at hP hS ⊢
    have hP : va_P (dC, dI) vwCl [(h0, .inr (23, [.int 0, v1, v2, v3, .ref (g 34), v4, v5, v6, v7])), (q1, .inl (cyq1, 6, .inl (upd (upd (upd (upd (upd (upd (fun _ => 0) 0 x0) 1 x1) 2 x2) 3 x3) 4 x4) 5 x5))), (t9, .inr (0, [.ref b9, .int 0, .int 0, .int 0])), (b9, .inl (cb9, 3, .inl fb9)), (q1014, .inl (cy1015, 2, .inl (va_cpy (fb9) (fun _ => 0) 0 0 2))), (q1013, .inr (0, [.ref q1014, .int 0, .int 0, .int 0]))] H := hP
    have hD : va_D A [(h0, .inr (23, [.int 0, v1, v2, v3, .ref (g 34), v4, v5, v6, v7])), (q1, .inl (cyq1, 6, .inl (upd (upd (upd (upd (upd (upd (fun _ => 0) 0 x0) 1 x1) 2 x2) 3 x3) 4 x4) 5 x5))), (t9, .inr (0, [.ref b9, .int 0, .int 0, .int 0])), (b9, .inl (cb9, 3, .inl fb9)), (q1014, .inl (cy1015, 2, .inl (va_cpy (fb9) (fun _ => 0) 0 0 2))), (q1013, .inr (0, [.ref q1014, .int 0, .int 0, .int 0]))] := hD
    have hK : va_K (dC, dI) vwCl [(cyq1, .int), (cb9, .byte), (cy1015, .byte)] s := hK
    refine W.widen (k := 27) (n := 172) (Nat.le_of_ble_eq_true rfl) (Nat.le_of_ble_eq_true rfl) ?_
    refine lv_astore (lv' := [(9, .ref q1013), (13, .int x4), (12, .int 4), (11, .int 6), (10, .ref q1), (0, .ref h0)]) hx hb dX16_say_140 hl (by decide) rfl (fun ls hl => ?_)
    refine lv_aload_n hx hb dX16_say_142 rfl (lv_at hl 5 rfl) ?_
    refine lv_aload hx hb dX16_say_143 (lv_at hl 0 rfl) ?_
    have hPc := hP.sub (ws' := [(q1013, .inr (0, [.ref q1014, .int 0, .int 0, .int 0])), (q1014, .inl (cy1015, 2, .inl (va_cpy (fb9) (fun _ => 0) 0 0 2)))]) [5, 4] rfl
    have hDc := hD.sub (ws' := [(q1013, .inr (0, [.ref q1014, .int 0, .int 0, .int 0])), (q1014, .inl (cy1015, 2, .inl (va_cpy (fb9) (fun _ => 0) 0 0 2)))]) [5, 4] (by decide) rfl
    have hKc := hK.sub (tys' := [(cy1015, .byte)]) [2] rfl
    have hFc := va_free (wc := [(q1013, .inr (0, [.ref q1014, .int 0, .int 0, .int 0])), (q1014, .inl (cy1015, 2, .inl (va_cpy (fb9) (fun _ => 0) 0 0 2)))]) hD hS hA [5, 4] rfl
    refine va_calli (va_runV (As := []) (rest := [.ref h0]) ⟨hx, hb, hml, hown, hts⟩ (kJ0_length_8abf5_4 l dC dI g H.size q1013 q1014 (.int 0) (.int 0) cy1015 (va_cpy (fb9) (fun _ => 0) 0 0 2) (sb_fitC hb9 sb_fit0) ) (cwV 0 hts (ns_gp (List.forall_mem_cons.mpr ⟨wm646, (List.forall_mem_cons.mpr ⟨wm595, (List.forall_mem_cons.mpr ⟨wm596, (List.forall_mem_cons.mpr ⟨wm316, (fun _ h9 => nomatch h9)⟩)⟩)⟩)⟩) wm574) rfl rfl rfl (by decide +kernel) ⟨Nat.le_of_ble_eq_true rfl, Nat.le_of_ble_eq_true rfl⟩) ⟨fun a U gg mk q => by obtain ⟨q0, q1, qP, qK, qD, qF⟩ := q; exact ⟨q0, q1, qP, va_K.moved (u := U) (U := U.calling gg mk a) (Vm.Alike.refl U.vm) qK, qD, ns_same qF⟩, va_recv hK hP (ci := 0) (q0 := 5) rfl rfl, fun U hU hW => ⟨rfl, by rw [hU], by rw [hU]; exact hPc, va_K.moved hW.alike hKc, hDc.weaken (fun _ _ _ _ => trivial), ns_call hF hS hFc hU hW⟩⟩ rfl rfl hl.1 rfl (lv_room (Nat.le_of_ble_eq_true rfl)) dX16_say_145 ⟨Nat.le_of_ble_eq_true rfl, Nat.le_of_ble_eq_true rfl⟩) hS (fun q _ h => hFc q h) hFc (fun r9 u t H1 locs ht hvm hw hB hz1 hk1 hS => ?_)
    obtain rfl := hw.symm
    obtain ⟨hP1, hK1, hD1⟩ := hB
    rw [ht] at hP1
    have hK1 := va_K.moved hvm.symm hK1
    obtain ⟨hP, hD⟩ := va_join (wr := [(h0, .inr (23, [.int 0, v1, v2, v3, .ref (g 34), v4, v5, v6, v7])), (q1, .inl (cyq1, 6, .inl (upd (upd (upd (upd (upd (upd (fun _ => 0) 0 x0) 1 x1) 2 x2) 3 x3) 4 x4) 5 x5))), (t9, .inr (0, [.ref b9, .int 0, .int 0, .int 0])), (b9, .inl (cb9, 3, .inl fb9))]) (w1 := [(q1014, .inl (cy1015, 2, .inl (va_cpy (fb9) (fun _ => 0) 0 0 2))), (q1013, .inr (0, [.ref q1014, .int 0, .int 0, .int 0]))]) hP hD [5, 4] [0, 1, 2, 3] rfl rfl (by decide) (by decide) hk1 hFc hP1 hD1
    have hK := (hK.sub (tys' := [(cyq1, .int), (cb9, .byte)]) [0, 1] rfl).app hK1
    generalize H1 = H at hP hS ⊢
    have hP : va_P (dC, dI) vwCl [(h0, .inr (23, [.int 0, v1, v2, v3, .ref (g 34), v4, v5, v6, v7])), (q1, .inl (cyq1, 6, .inl (upd (upd (upd (upd (upd (upd (fun _ => 0) 0 x0) 1 x1) 2 x2) 3 x3) 4 x4) 5 x5))), (t9, .inr (0, [.ref b9, .int 0, .int 0, .int 0])), (b9, .inl (cb9, 3, .inl fb9)), (q1014, .inl (cy1015, 2, .inl (va_cpy (fb9) (fun _ => 0) 0 0 2))), (q1013, .inr (0, [.ref q1014, .int 0, .int 0, .int 0]))] H := hP
    have hD : va_D A [(h0, .inr (23, [.int 0, v1, v2, v3, .ref (g 34), v4, v5, v6, v7])), (q1, .inl (cyq1, 6, .inl (upd (upd (upd (upd (upd (upd (fun _ => 0) 0 x0) 1 x1) 2 x2) 3 x3) 4 x4) 5 x5))), (t9, .inr (0, [.ref b9, .int 0, .int 0, .int 0])), (b9, .inl (cb9, 3, .inl fb9)), (q1014, .inl (cy1015, 2, .inl (va_cpy (fb9) (fun _ => 0) 0 0 2))), (q1013, .inr (0, [.ref q1014, .int 0, .int 0, .int 0]))] := hD
    have hK : va_K (dC, dI) vwCl [(cyq1, .int), (cb9, .byte), (cy1015, .byte)] s := hK
    refine W.widen (k := 27) (n := 172) (Nat.le_of_ble_eq_true rfl) (Nat.le_of_ble_eq_true rfl) ?_
    refine lv_bipush (v := 60) hx hb dX16_say_148 (by decide) ?_
    refine lv_icmp_le (tgt := 157) hx hb dX16_say_150 (by decide) (fun c1016 => ?_) (fun c1016 => absurd (by decide) c1016)
    refine lv_iconst (v := 0) hx hb dX16_say_157 (by decide) ?_
    refine lv_iconst (v := 2) hx hb dX16_say_158 (by decide) ?_
    have hPc := hP.sub (ws' := [(h0, .inr (23, [.int 0, v1, v2, v3, .ref (g 34), v4, v5, v6, v7]))]) [0] rfl
    have hDc := hD.sub (ws' := [(h0, .inr (23, [.int 0, v1, v2, v3, .ref (g 34), v4, v5, v6, v7]))]) [0] (by decide) rfl
    have hKc := hK.sub (tys' := []) [] rfl
    have hFc := va_free (wc := [(h0, .inr (23, [.int 0, v1, v2, v3, .ref (g 34), v4, v5, v6, v7]))]) hD hS hA [0] rfl
    refine va_calli (va_runV (As := [.int 0, .int 2]) (rest := []) ⟨hx, hb, hml, hown, hts⟩ (kX16_refuse_3 l dC dI g H.size h0 v1 v2 v3 (.ref (g 34)) v4 v5 v6 v7 ) (cwV 2 hts (ns_gp (List.forall_mem_cons.mpr ⟨wm236, (List.forall_mem_cons.mpr ⟨wm237, (List.forall_mem_cons.mpr ⟨wm238, (List.forall_mem_cons.mpr ⟨wm192, (fun _ h9 => nomatch h9)⟩)⟩)⟩)⟩) wm235) rfl rfl rfl (by decide +kernel) ⟨Nat.le_of_ble_eq_true rfl, Nat.le_of_ble_eq_true rfl⟩) ⟨fun a U gg mk q => by obtain ⟨q0, q1, qP, qK, qD, qF⟩ := q; exact ⟨q0, q1, qP, va_K.moved (u := U) (U := U.calling gg mk a) (Vm.Alike.refl U.vm) qK, qD, ns_same qF⟩, va_recv hK hP (ci := 23) (q0 := 0) rfl rfl, fun U hU hW => ⟨rfl, by rw [hU], by rw [hU]; exact hPc, va_K.moved hW.alike hKc, hDc.weaken (fun _ _ _ _ => trivial), ns_call hF hS hFc hU hW⟩⟩ rfl rfl hl.1 rfl (lv_room (Nat.le_of_ble_eq_true rfl)) dX16_say_159 ⟨Nat.le_of_ble_eq_true rfl, Nat.le_of_ble_eq_true rfl⟩) hS (fun q _ h => hFc q h) hFc (fun r9 u t H1 locs ht hvm hw hB hz1 hk1 hS => ?_)
    obtain rfl := hw.symm
    obtain ⟨hP1, hK1, hD1⟩ := hB
    rw [ht] at hP1
    have hK1 := va_K.moved hvm.symm hK1
    obtain ⟨hP, hD⟩ := va_join (wr := [(q1, .inl (cyq1, 6, .inl (upd (upd (upd (upd (upd (upd (fun _ => 0) 0 x0) 1 x1) 2 x2) 3 x3) 4 x4) 5 x5))), (t9, .inr (0, [.ref b9, .int 0, .int 0, .int 0])), (b9, .inl (cb9, 3, .inl fb9)), (q1014, .inl (cy1015, 2, .inl (va_cpy (fb9) (fun _ => 0) 0 0 2))), (q1013, .inr (0, [.ref q1014, .int 0, .int 0, .int 0]))]) (w1 := [(h0, .inr (23, [.int 0, v1, v2, v3, .ref (g 34), v4, v5, v6, v7]))]) hP hD [0] [1, 2, 3, 4, 5] rfl rfl (by decide) (by decide) hk1 hFc hP1 hD1
    have hK := (hK.sub (tys' := [(cyq1, .int), (cb9, .byte), (cy1015, .byte)]) [0, 1, 2] rfl).app hK1
    generalize H1 = H at hP hS ⊢
    have hP : va_P (dC, dI) vwCl [(q1, .inl (cyq1, 6, .inl (upd (upd (upd (upd (upd (upd (fun _ => 0) 0 x0) 1 x1) 2 x2) 3 x3) 4 x4) 5 x5))), (t9, .inr (0, [.ref b9, .int 0, .int 0, .int 0])), (b9, .inl (cb9, 3, .inl fb9)), (q1014, .inl (cy1015, 2, .inl (va_cpy (fb9) (fun _ => 0) 0 0 2))), (q1013, .inr (0, [.ref q1014, .int 0, .int 0, .int 0])), (h0, .inr (23, [.int 0, v1, v2, v3, .ref (g 34), v4, v5, v6, v7]))] H := hP
    have hD : va_D A [(q1, .inl (cyq1, 6, .inl (upd (upd (upd (upd (upd (upd (fun _ => 0) 0 x0) 1 x1) 2 x2) 3 x3) 4 x4) 5 x5))), (t9, .inr (0, [.ref b9, .int 0, .int 0, .int 0])), (b9, .inl (cb9, 3, .inl fb9)), (q1014, .inl (cy1015, 2, .inl (va_cpy (fb9) (fun _ => 0) 0 0 2))), (q1013, .inr (0, [.ref q1014, .int 0, .int 0, .int 0])), (h0, .inr (23, [.int 0, v1, v2, v3, .ref (g 34), v4, v5, v6, v7]))] := hD
    have hK : va_K (dC, dI) vwCl [(cyq1, .int), (cb9, .byte), (cy1015, .byte)] s := hK
    refine W.widen (k := 27) (n := 172) (Nat.le_of_ble_eq_true rfl) (Nat.le_of_ble_eq_true rfl) ?_
    refine lv_if_eq (tgt := 167) hx hb dX16_say_162 (by decide) (fun c1017 => ?_) (fun c1017 => absurd (by decide) c1017)
    refine lv_iinc (v := 5) (lv' := [(12, .int 5), (9, .ref q1013), (13, .int x4), (11, .int 6), (10, .ref q1), (0, .ref h0)]) hx hb dX16_say_167 hl (k := 2) rfl (by decide) (by decide) rfl (fun ls hl => ?_)
    refine lv_goto (tgt := 119) hx hb dX16_say_170 (by decide) ?_
    have hP := hP.sub (ws' := [(h0, .inr (23, [.int 0, v1, v2, v3, .ref (g 34), v4, v5, v6, v7])), (q1, .inl (cyq1, 6, .inl (upd (upd (upd (upd (upd (upd (fun _ => 0) 0 x0) 1 x1) 2 x2) 3 x3) 4 x4) 5 x5))), (q1013, .inr (0, [.ref q1014, .int 0, .int 0, .int 0])), (q1014, .inl (cy1015, 2, .inl (va_cpy (fb9) (fun _ => 0) 0 0 2)))]) [5, 0, 4, 3] rfl
    have hD := hD.sub (ws' := [(h0, .inr (23, [.int 0, v1, v2, v3, .ref (g 34), v4, v5, v6, v7])), (q1, .inl (cyq1, 6, .inl (upd (upd (upd (upd (upd (upd (fun _ => 0) 0 x0) 1 x1) 2 x2) 3 x3) 4 x4) 5 x5))), (q1013, .inr (0, [.ref q1014, .int 0, .int 0, .int 0])), (q1014, .inl (cy1015, 2, .inl (va_cpy (fb9) (fun _ => 0) 0 0 2)))]) [5, 0, 4, 3] (by decide) rfl
    have hK := hK.sub (tys' := [(cyq1, .int), (cy1015, .byte)]) [0, 2] rfl
    have hl := lv_sub hl (l' := [(12, .int 5), (11, .int 6), (10, .ref q1), (9, .ref q1013), (0, .ref h0)]) [0, 3, 4, 1, 5] rfl
    refine W.widen (k := 31) (n := 206) (Nat.le_of_ble_eq_true rfl) (Nat.le_of_ble_eq_true rfl) ?_
    have hE2 : ns_len E9 x4 = 2 := by rw [hE]; exact (ns_lenC x4 3 (by decide) (by omega)).trans (by decide)
    exact ns_say_5_2 (sb_fitC hb9 sb_fit0) hE2 ex0 ex1 ex2 ex3 ex4 ex5 hx hb hml hown hts hA hF hK hP hD hS hl k09 k19 k29 k39 k49 k59 k69
  · have _h9 := 0
    refine lv_aload hx hb dX16_say_133 (lv_at hl 4 rfl) ?_
    refine lv_iload hx hb dX16_say_135 (lv_at hl 0 rfl) ?_
    have hPc := hP.sub (ws' := []) [] rfl
    have hDc := hD.sub (ws' := []) [] (by decide) rfl
    have hKc := hK.sub (tys' := []) [] rfl
    have hFc := va_free (wc := []) hD hS hA [] rfl
    refine va_callr (va_runS (As := [.ref t9, .int x4]) (rest := []) ⟨hx, hb, hml, hown, hts⟩ (kX16_said_8 l dC dI g H.size t9 x4 ⟨by omega, by omega⟩) (va_cwS 2 hts (ns_gp (List.forall_mem_cons.mpr ⟨wm655, (List.forall_mem_cons.mpr ⟨wm656, (List.forall_mem_cons.mpr ⟨wm192, (fun _ h9 => nomatch h9)⟩)⟩)⟩) wm604) rfl rfl rfl (by decide +kernel) ⟨Nat.le_of_ble_eq_true rfl, Nat.le_of_ble_eq_true rfl⟩) ⟨fun a U gg mk q => by obtain ⟨q0, q1, qP, qK, qD, qF⟩ := q; exact ⟨q0, q1, qP, va_K.moved (u := U) (U := U.calling gg mk a) (Vm.Alike.refl U.vm) qK, qD, ns_same qF⟩, fun U hU hW => ⟨rfl, by rw [hU], by rw [hU]; exact hPc, va_K.moved hW.alike hKc, hDc.weaken (fun _ _ _ _ => trivial), ns_call hF hS hFc hU hW⟩⟩ rfl rfl hl.1 rfl (lv_room (Nat.le_of_ble_eq_true rfl)) dX16_say_137 ⟨Nat.le_of_ble_eq_true rfl, Nat.le_of_ble_eq_true rfl⟩) hS (fun q _ h => hFc q h) hFc (fun u r9 t H1 locs ht hvm hw hB hz1 hk1 hS => ?_)
    obtain ⟨hr9, hP1, hK1, hD1⟩ := hB
    obtain rfl := hr9.symm
    rw [ht] at hP1
    have hK1 := va_K.moved hvm.symm hK1
    obtain ⟨hP, hD⟩ := va_join (wr := [(h0, .inr (23, [.int 0, v1, v2, v3, .ref (g 34), v4, v5, v6, v7])), (q1, .inl (cyq1, 6, .inl (upd (upd (upd (upd (upd (upd (fun _ => 0) 0 x0) 1 x1) 2 x2) 3 x3) 4 x4) 5 x5))), (t9, .inr (0, [.ref b9, .int 0, .int 0, .int 0])), (b9, .inl (cb9, 3, .inl fb9))]) (w1 := []) hP hD [] [0, 1, 2, 3] rfl rfl (by decide) (by decide) hk1 hFc hP1 hD1
    have hK := (hK.sub (tys' := [(cyq1, .int), (cb9, .byte)]) [0, 1] rfl).app hK1
    generalize H1 = H at hP hS ⊢
    have hP : va_P (dC, dI) vwCl [(h0, .inr (23, [.int 0, v1, v2, v3, .ref (g 34), v4, v5, v6, v7])), (q1, .inl (cyq1, 6, .inl (upd (upd (upd (upd (upd (upd (fun _ => 0) 0 x0) 1 x1) 2 x2) 3 x3) 4 x4) 5 x5))), (t9, .inr (0, [.ref b9, .int 0, .int 0, .int 0])), (b9, .inl (cb9, 3, .inl fb9))] H := hP
    have hD : va_D A [(h0, .inr (23, [.int 0, v1, v2, v3, .ref (g 34), v4, v5, v6, v7])), (q1, .inl (cyq1, 6, .inl (upd (upd (upd (upd (upd (upd (fun _ => 0) 0 x0) 1 x1) 2 x2) 3 x3) 4 x4) 5 x5))), (t9, .inr (0, [.ref b9, .int 0, .int 0, .int 0])), (b9, .inl (cb9, 3, .inl fb9))] := hD
    have hK : va_K (dC, dI) vwCl [(cyq1, .int), (cb9, .byte)] s := hK
    refine W.widen (k := 25) (n := 166) (Nat.le_of_ble_eq_true rfl) (Nat.le_of_ble_eq_true rfl) ?_
    refine lv_astore (lv' := [(9, .ref (g 34)), (13, .int x4), (12, .int 4), (11, .int 6), (10, .ref q1), (0, .ref h0)]) hx hb dX16_say_140 hl (by decide) rfl (fun ls hl => ?_)
    refine lv_aload_n hx hb dX16_say_142 rfl (lv_at hl 5 rfl) ?_
    refine lv_aload hx hb dX16_say_143 (lv_at hl 0 rfl) ?_
    have hPc := hP.sub (ws' := []) [] rfl
    have hDc := hD.sub (ws' := []) [] (by decide) rfl
    have hKc := hK.sub (tys' := []) [] rfl
    have hFc := va_free (wc := []) hD hS hA [] rfl
    refine va_calli (va_runV (As := []) (rest := [.ref h0]) ⟨hx, hb, hml, hown, hts⟩ (kJ0_length_8abf5_2 l dC dI g H.size  ) (cwV 0 hts (ns_gp (List.forall_mem_cons.mpr ⟨wm646, (List.forall_mem_cons.mpr ⟨wm595, (List.forall_mem_cons.mpr ⟨wm596, (List.forall_mem_cons.mpr ⟨wm316, (fun _ h9 => nomatch h9)⟩)⟩)⟩)⟩) wm574) rfl rfl rfl (by decide +kernel) ⟨Nat.le_of_ble_eq_true rfl, Nat.le_of_ble_eq_true rfl⟩) ⟨fun a U gg mk q => by obtain ⟨q0, q1, qP, qK, qD, qF⟩ := q; exact ⟨q0, q1, qP, va_K.moved (u := U) (U := U.calling gg mk a) (Vm.Alike.refl U.vm) qK, qD, ns_same qF⟩, va_Orecv (ns_f38 hF) hS, fun U hU hW => ⟨rfl, by rw [hU], by rw [hU]; exact hPc, va_K.moved hW.alike hKc, hDc.weaken (fun _ _ _ _ => trivial), ns_call hF hS hFc hU hW⟩⟩ rfl rfl hl.1 rfl (lv_room (Nat.le_of_ble_eq_true rfl)) dX16_say_145 ⟨Nat.le_of_ble_eq_true rfl, Nat.le_of_ble_eq_true rfl⟩) hS (fun q _ h => hFc q h) hFc (fun r9 u t H1 locs ht hvm hw hB hz1 hk1 hS => ?_)
    obtain rfl := hw.symm
    obtain ⟨hP1, hK1, hD1⟩ := hB
    rw [ht] at hP1
    have hK1 := va_K.moved hvm.symm hK1
    obtain ⟨hP, hD⟩ := va_join (wr := [(h0, .inr (23, [.int 0, v1, v2, v3, .ref (g 34), v4, v5, v6, v7])), (q1, .inl (cyq1, 6, .inl (upd (upd (upd (upd (upd (upd (fun _ => 0) 0 x0) 1 x1) 2 x2) 3 x3) 4 x4) 5 x5))), (t9, .inr (0, [.ref b9, .int 0, .int 0, .int 0])), (b9, .inl (cb9, 3, .inl fb9))]) (w1 := []) hP hD [] [0, 1, 2, 3] rfl rfl (by decide) (by decide) hk1 hFc hP1 hD1
    have hK := (hK.sub (tys' := [(cyq1, .int), (cb9, .byte)]) [0, 1] rfl).app hK1
    generalize H1 = H at hP hS ⊢
    have hP : va_P (dC, dI) vwCl [(h0, .inr (23, [.int 0, v1, v2, v3, .ref (g 34), v4, v5, v6, v7])), (q1, .inl (cyq1, 6, .inl (upd (upd (upd (upd (upd (upd (fun _ => 0) 0 x0) 1 x1) 2 x2) 3 x3) 4 x4) 5 x5))), (t9, .inr (0, [.ref b9, .int 0, .int 0, .int 0])), (b9, .inl (cb9, 3, .inl fb9))] H := hP
    have hD : va_D A [(h0, .inr (23, [.int 0, v1, v2, v3, .ref (g 34), v4, v5, v6, v7])), (q1, .inl (cyq1, 6, .inl (upd (upd (upd (upd (upd (upd (fun _ => 0) 0 x0) 1 x1) 2 x2) 3 x3) 4 x4) 5 x5))), (t9, .inr (0, [.ref b9, .int 0, .int 0, .int 0])), (b9, .inl (cb9, 3, .inl fb9))] := hD
    have hK : va_K (dC, dI) vwCl [(cyq1, .int), (cb9, .byte)] s := hK
    refine W.widen (k := 25) (n := 166) (Nat.le_of_ble_eq_true rfl) (Nat.le_of_ble_eq_true rfl) ?_
    refine lv_bipush (v := 60) hx hb dX16_say_148 (by decide) ?_
    refine lv_icmp_le (tgt := 157) hx hb dX16_say_150 (by decide) (fun c1018 => ?_) (fun c1018 => absurd (by decide) c1018)
    refine lv_iconst (v := 0) hx hb dX16_say_157 (by decide) ?_
    refine lv_iconst (v := 2) hx hb dX16_say_158 (by decide) ?_
    have hPc := hP.sub (ws' := [(h0, .inr (23, [.int 0, v1, v2, v3, .ref (g 34), v4, v5, v6, v7]))]) [0] rfl
    have hDc := hD.sub (ws' := [(h0, .inr (23, [.int 0, v1, v2, v3, .ref (g 34), v4, v5, v6, v7]))]) [0] (by decide) rfl
    have hKc := hK.sub (tys' := []) [] rfl
    have hFc := va_free (wc := [(h0, .inr (23, [.int 0, v1, v2, v3, .ref (g 34), v4, v5, v6, v7]))]) hD hS hA [0] rfl
    refine va_calli (va_runV (As := [.int 0, .int 2]) (rest := []) ⟨hx, hb, hml, hown, hts⟩ (kX16_refuse_3 l dC dI g H.size h0 v1 v2 v3 (.ref (g 34)) v4 v5 v6 v7 ) (cwV 2 hts (ns_gp (List.forall_mem_cons.mpr ⟨wm236, (List.forall_mem_cons.mpr ⟨wm237, (List.forall_mem_cons.mpr ⟨wm238, (List.forall_mem_cons.mpr ⟨wm192, (fun _ h9 => nomatch h9)⟩)⟩)⟩)⟩) wm235) rfl rfl rfl (by decide +kernel) ⟨Nat.le_of_ble_eq_true rfl, Nat.le_of_ble_eq_true rfl⟩) ⟨fun a U gg mk q => by obtain ⟨q0, q1, qP, qK, qD, qF⟩ := q; exact ⟨q0, q1, qP, va_K.moved (u := U) (U := U.calling gg mk a) (Vm.Alike.refl U.vm) qK, qD, ns_same qF⟩, va_recv hK hP (ci := 23) (q0 := 0) rfl rfl, fun U hU hW => ⟨rfl, by rw [hU], by rw [hU]; exact hPc, va_K.moved hW.alike hKc, hDc.weaken (fun _ _ _ _ => trivial), ns_call hF hS hFc hU hW⟩⟩ rfl rfl hl.1 rfl (lv_room (Nat.le_of_ble_eq_true rfl)) dX16_say_159 ⟨Nat.le_of_ble_eq_true rfl, Nat.le_of_ble_eq_true rfl⟩) hS (fun q _ h => hFc q h) hFc (fun r9 u t H1 locs ht hvm hw hB hz1 hk1 hS => ?_)
    obtain rfl := hw.symm
    obtain ⟨hP1, hK1, hD1⟩ := hB
    rw [ht] at hP1
    have hK1 := va_K.moved hvm.symm hK1
    obtain ⟨hP, hD⟩ := va_join (wr := [(q1, .inl (cyq1, 6, .inl (upd (upd (upd (upd (upd (upd (fun _ => 0) 0 x0) 1 x1) 2 x2) 3 x3) 4 x4) 5 x5))), (t9, .inr (0, [.ref b9, .int 0, .int 0, .int 0])), (b9, .inl (cb9, 3, .inl fb9))]) (w1 := [(h0, .inr (23, [.int 0, v1, v2, v3, .ref (g 34), v4, v5, v6, v7]))]) hP hD [0] [1, 2, 3] rfl rfl (by decide) (by decide) hk1 hFc hP1 hD1
    have hK := (hK.sub (tys' := [(cyq1, .int), (cb9, .byte)]) [0, 1] rfl).app hK1
    generalize H1 = H at hP hS ⊢
    have hP : va_P (dC, dI) vwCl [(q1, .inl (cyq1, 6, .inl (upd (upd (upd (upd (upd (upd (fun _ => 0) 0 x0) 1 x1) 2 x2) 3 x3) 4 x4) 5 x5))), (t9, .inr (0, [.ref b9, .int 0, .int 0, .int 0])), (b9, .inl (cb9, 3, .inl fb9)), (h0, .inr (23, [.int 0, v1, v2, v3, .ref (g 34), v4, v5, v6, v7]))] H := hP
    have hD : va_D A [(q1, .inl (cyq1, 6, .inl (upd (upd (upd (upd (upd (upd (fun _ => 0) 0 x0) 1 x1) 2 x2) 3 x3) 4 x4) 5 x5))), (t9, .inr (0, [.ref b9, .int 0, .int 0, .int 0])), (b9, .inl (cb9, 3, .inl fb9)), (h0, .inr (23, [.int 0, v1, v2, v3, .ref (g 34), v4, v5, v6, v7]))] := hD
    have hK : va_K (dC, dI) vwCl [(cyq1, .int), (cb9, .byte)] s := hK
    refine W.widen (k := 25) (n := 166) (Nat.le_of_ble_eq_true rfl) (Nat.le_of_ble_eq_true rfl) ?_
    refine lv_if_eq (tgt := 167) hx hb dX16_say_162 (by decide) (fun c1019 => ?_) (fun c1019 => absurd (by decide) c1019)
    refine lv_iinc (v := 5) (lv' := [(12, .int 5), (9, .ref (g 34)), (13, .int x4), (11, .int 6), (10, .ref q1), (0, .ref h0)]) hx hb dX16_say_167 hl (k := 2) rfl (by decide) (by decide) rfl (fun ls hl => ?_)
    refine lv_goto (tgt := 119) hx hb dX16_say_170 (by decide) ?_
    have hP := hP.sub (ws' := [(h0, .inr (23, [.int 0, v1, v2, v3, .ref (g 34), v4, v5, v6, v7])), (q1, .inl (cyq1, 6, .inl (upd (upd (upd (upd (upd (upd (fun _ => 0) 0 x0) 1 x1) 2 x2) 3 x3) 4 x4) 5 x5)))]) [3, 0] rfl
    have hD := hD.sub (ws' := [(h0, .inr (23, [.int 0, v1, v2, v3, .ref (g 34), v4, v5, v6, v7])), (q1, .inl (cyq1, 6, .inl (upd (upd (upd (upd (upd (upd (fun _ => 0) 0 x0) 1 x1) 2 x2) 3 x3) 4 x4) 5 x5)))]) [3, 0] (by decide) rfl
    have hK := hK.sub (tys' := [(cyq1, .int)]) [0] rfl
    have hl := lv_sub hl (l' := [(12, .int 5), (11, .int 6), (10, .ref q1), (9, .ref (g 34)), (0, .ref h0)]) [0, 3, 4, 1, 5] rfl
    refine W.widen (k := 31) (n := 206) (Nat.le_of_ble_eq_true rfl) (Nat.le_of_ble_eq_true rfl) ?_
    have hE2 : ns_len E9 x4 = 0 := by rw [hE]; exact ns_lenD x4 3 (by omega)
    exact ns_say_5_0 hE2 ex0 ex1 ex2 ex3 ex4 ex5 hx hb hml hown hts hA hF hK hP hD hS hl k09 k19 k29 k39 k49 k59 k69
