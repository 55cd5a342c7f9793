set_option maxHeartbeats 4000000 in
set_option maxRecDepth 100000 in
theorem kX16_isIn (l : Launch) (dC : Nat → ClassId) (dI : Nat → Nat → Nat) (g : Nat → Nat) (sz : Nat) (x0 : Int32) (ex0 : (-2147483648 : Int) ≤ x0.toInt ∧ x0.toInt ≤ (-1 : Int)) : Met l yX16_isIn wsX16_isIn ({ frames := 0, cells := 0, slots := 0, locals := 0 }) (va_Pc [.int x0, .int 0, .int 25] (fun U => U.heap.size = sz ∧ va_P (dC, dI) vwCl [] U.heap ∧ va_K (dC, dI) vwCl [] U ∧ va_D (fun _ => True) [] ∧ ns_F g (va_A [] sz) U U.heap)) (va_Qi (fun (r : Int32) (_ : Unit) => r = 0) (fun _ t => va_P (dC, dI) vwCl [] t.heap ∧ va_K (dC, dI) vwCl [] t ∧ va_D (va_A [] sz) []) (va_A [] sz)) 0 0 (va_A [] sz) := by
  refine Met.ofW (cc := cX16_isIn) (maxL := 3) (ret := (some .boolean)) (by decide) rfl ?_
  intro p e s m args below meth c s₁ B hml hv
  obtain ⟨rfl, hsz, hP, hK, hD0, hF⟩ := hv
  have hx := B.exec
  have hb := B.bytes
  have hr := B.returns
  have hts := atoms_spec (ws := wsX16_isIn) B.pre
  have hown : s.vm.findClass RX16 = some m.cls := findClass_of_methodNamed B.named
  have hlocks := B.notSynchronized
  subst hsz
  have hD := hD0.self (sz := s.heap.size)
  generalize hAe : va_A [] s.heap.size = A at hD hF ⊢
  have hA : ∀ q : Nat, s.heap.size ≤ q → A q := fun q h => by rw [← hAe]; exact Or.inr h
  have hS : va_S A s.heap s.heap [] := va_S.rf
  have hP : va_P (dC, dI) vwCl [] s.heap := hP
  have hl := lv_entry ([.int x0, .int 0, .int 25]) (n := 3) (Nat.le_of_ble_eq_true rfl)
  rw [lg_entry_eq]
  generalize (lg_sl ([.int x0, .int 0, .int 25]) ++ List.replicate (3 - (lg_sl ([.int x0, .int 0, .int 25])).length) Slot.unset).toArray = ls at hl ⊢
  have hl : lv_has ls 3 [(0, .int x0), (1, .int 0), (2, .int 25)] := hl
  refine lv_iload_n hx hb dX16_isIn_0 rfl (lv_at hl 0 rfl) ?_
  refine lv_iload_n hx hb dX16_isIn_1 rfl (lv_at hl 1 rfl) ?_
  refine lv_icmp_lt (tgt := 14) hx hb dX16_isIn_2 (by decide) (fun c1 => ?_) (fun c1 => absurd (Int32.lt_iff_toInt_lt.mpr (show x0.toInt < (0 : Int) by omega)) c1)
  refine lv_iconst (v := 0) hx hb dX16_isIn_14 (by decide) ?_
  have hP9 := hP.sub (ws' := []) [] rfl
  have hD9 := hD.sub (ws' := []) [] (by decide) rfl
  have hK9 := hK.sub (tys' := []) [] rfl
  refine W.widen (k := 0) (n := 0) (Nat.le_of_ble_eq_true rfl) (Nat.le_of_ble_eq_true rfl) ?_
  exact W.zret (v := 0) hx hb hr (by decide) (fun t ht hW => ⟨⟨_, (), rfl, rfl, by rw [ht]; exact hP9, va_K.moved hW.alike hK9, hD9⟩, hS.F ht⟩) hS.2.2 dX16_isIn_15
set_option maxHeartbeats 4000000 in
set_option maxRecDepth 100000 in
theorem kX16_refuse (l : Launch) (dC : Nat → ClassId) (dI : Nat → Nat → Nat) (g : Nat → Nat) (sz : Nat) (h0 : Nat) (v0 : Value) (v1 : Value) (v2 : Value) (v3 : Value) (v4 : Value) (v5 : Value) (v6 : Value) (v7 : Value) : Met l yX16_refuse wsX16_refuse ({ frames := 0, cells := 0, slots := 0, locals := 0 }) (va_Pc [.ref h0, .int 1, .int 1] (fun U => U.heap.size = sz ∧ va_P (dC, dI) vwCl [(h0, .inr (23, [.int 0, v0, v1, v2, v3, v4, v5, v6, v7]))] U.heap ∧ va_K (dC, dI) vwCl [] U ∧ va_D (fun _ => True) [(h0, .inr (23, [.int 0, v0, v1, v2, v3, v4, v5, v6, v7]))] ∧ ns_F g (va_A [(h0, .inr (23, [.int 0, v0, v1, v2, v3, v4, v5, v6, v7]))] sz) U U.heap)) (va_Qi (fun (r : Int32) (_ : Unit) => r = 1) (fun _ t => va_P (dC, dI) vwCl [(h0, .inr (23, [.int 1, v0, v1, v2, v3, v4, v5, v6, v7]))] t.heap ∧ va_K (dC, dI) vwCl [] t ∧ va_D (va_A [(h0, .inr (23, [.int 0, v0, v1, v2, v3, v4, v5, v6, v7]))] sz) [(h0, .inr (23, [.int 1, v0, v1, v2, v3, v4, v5, v6, v7]))]) (va_A [(h0, .inr (23, [.int 0, v0, v1, v2, v3, v4, v5, v6, v7]))] sz)) 0 0 (va_A [(h0, .inr (23, [.int 0, v0, v1, v2, v3, v4, v5, v6, v7]))] sz) := by
  refine Met.ofW (cc := cX16_refuse) (maxL := 3) (ret := (some .boolean)) (by decide) rfl ?_
  intro p e s m args below meth c s₁ B hml hv
  obtain ⟨rfl, hsz, hP, hK, hD0, hF⟩ := hv
  have hx := B.exec
  have hb := B.bytes
  have hr := B.returns
  have hts := atoms_spec (ws := wsX16_refuse) B.pre
  have hown : s.vm.findClass RX16 = some m.cls := findClass_of_methodNamed B.named
  have hlocks := B.notSynchronized
  subst hsz
  have hD := hD0.self (sz := s.heap.size)
  generalize hAe : va_A [(h0, .inr (23, [.int 0, v0, v1, v2, v3, v4, v5, v6, v7]))] s.heap.size = A at hD hF ⊢
  have hA : ∀ q : Nat, s.heap.size ≤ q → A q := fun q h => by rw [← hAe]; exact Or.inr h
  have hS : va_S A s.heap s.heap [] := va_S.rf
  have hP : va_P (dC, dI) vwCl [(h0, .inr (23, [.int 0, v0, v1, v2, v3, v4, v5, v6, v7]))] s.heap := hP
  have hl := lv_entry ([.ref h0, .int 1, .int 1]) (n := 3) (Nat.le_of_ble_eq_true rfl)
  rw [lg_entry_eq]
  generalize (lg_sl ([.ref h0, .int 1, .int 1]) ++ List.replicate (3 - (lg_sl ([.ref h0, .int 1, .int 1])).length) Slot.unset).toArray = ls at hl ⊢
  have hl : lv_has ls 3 [(0, .ref h0), (1, .int 1), (2, .int 1)] := hl
  refine lv_iload_n hx hb dX16_refuse_0 rfl (lv_at hl 1 rfl) ?_
  refine lv_if_eq (tgt := 16) hx hb dX16_refuse_1 (by decide) (fun c1 => absurd c1 (by decide)) (fun c1 => ?_)
  refine lv_aload_n hx hb dX16_refuse_4 rfl (lv_at hl 0 rfl) ?_
  refine va_get (D := (dC, dI)) (ci := 23) (v := .int 0) (C := RX16) (T := TX16) (N := 9) hx hb hts (by decide +kernel) hown hK hP 0 rfl rfl 0 (by decide) (hts (.fieldLink RX16 176 "NestprintModel" "thrown" "I") (by decide +kernel)) (fun _ h9 => h9) rfl dX16_refuse_5 ?_
  refine lv_if_ne (tgt := 16) hx hb dX16_refuse_8 (by decide) (fun c2 => absurd (by decide) c2) (fun c2 => ?_)
  refine lv_aload_n hx hb dX16_refuse_11 rfl (lv_at hl 0 rfl) ?_
  refine lv_iload_n hx hb dX16_refuse_12 rfl (lv_at hl 2 rfl) ?_
  refine va_put (D := (dC, dI)) (ci := 23) (v := .int 1) (ty := .int) (C := RX16) (T := TX16) (N := 9) hx hb hts (by decide +kernel) tyX16 tyX16_ok nmX16 hown hK hP hD hS 0 rfl rfl 0 (by decide) (hts (.fieldLink RX16 176 "NestprintModel" "thrown" "I") (by decide +kernel)) (fun _ h9 => h9) rfl (by decide +kernel) rfl rfl (Nat.le_of_ble_eq_true rfl) dX16_refuse_13 (fun H locs hP hD hS => ?_)
  have hP : va_P (dC, dI) vwCl [(h0, .inr (23, [.int 1, v0, v1, v2, v3, v4, v5, v6, v7]))] H := hP
  have hD : va_D A [(h0, .inr (23, [.int 1, v0, v1, v2, v3, v4, v5, v6, v7]))] := hD
  refine lv_aload_n hx hb dX16_refuse_16 rfl (lv_at hl 0 rfl) ?_
  refine va_get (D := (dC, dI)) (ci := 23) (v := .int 1) (C := RX16) (T := TX16) (N := 9) hx hb hts (by decide +kernel) hown hK hP 0 rfl rfl 0 (by decide) (hts (.fieldLink RX16 176 "NestprintModel" "thrown" "I") (by decide +kernel)) (fun _ h9 => h9) rfl dX16_refuse_17 ?_
  refine lv_if_le (tgt := 27) hx hb dX16_refuse_20 (by decide) (fun c3 => absurd c3 (by decide)) (fun c3 => ?_)
  refine lv_iconst (v := 1) hx hb dX16_refuse_23 (by decide) ?_
  refine lv_goto (tgt := 28) hx hb dX16_refuse_24 (by decide) ?_
  have hP9 := hP.sub (ws' := [(h0, .inr (23, [.int 1, v0, v1, v2, v3, v4, v5, v6, v7]))]) [0] rfl
  have hD9 := hD.sub (ws' := [(h0, .inr (23, [.int 1, v0, v1, v2, v3, v4, v5, v6, v7]))]) [0] (by decide) rfl
  have hK9 := hK.sub (tys' := []) [] rfl
  refine W.widen (k := 0) (n := 0) (Nat.le_of_ble_eq_true rfl) (Nat.le_of_ble_eq_true rfl) ?_
  exact W.zret (v := 1) hx hb hr (by decide) (fun t ht hW => ⟨⟨_, (), rfl, rfl, by rw [ht]; exact hP9, va_K.moved hW.alike hK9, hD9⟩, hS.F ht⟩) hS.2.2 dX16_refuse_28
set_option maxHeartbeats 4000000 in
set_option maxRecDepth 100000 in
theorem kX16_start (l : Launch) (dC : Nat → ClassId) (dI : Nat → Nat → Nat) (g : Nat → Nat) (sz : Nat) (h0 : Nat) (v0 : Value) (v1 : Value) (v2 : Value) (v3 : Value) (v4 : Value) (v5 : Value) (v6 : Value) (v7 : Value) (v8 : Value) : Met l yX16_start wsX16_start ({ frames := 1, cells := 0, slots := 0, locals := 22 }) (va_Pc [.ref h0, .int 1, .int 1] (fun U => U.heap.size = sz ∧ va_P (dC, dI) vwCl [(h0, .inr (23, [v0, v1, v2, v3, v4, v5, v6, v7, v8]))] U.heap ∧ va_K (dC, dI) vwCl [] U ∧ va_D (fun _ => True) [(h0, .inr (23, [v0, v1, v2, v3, v4, v5, v6, v7, v8]))] ∧ ns_F g (va_A [(h0, .inr (23, [v0, v1, v2, v3, v4, v5, v6, v7, v8]))] sz) U U.heap)) (va_Qi (fun (r : Int32) (_ : Unit) => r = 1) (fun _ t => va_P (dC, dI) vwCl [(h0, .inr (23, [.int 1, v1, v2, v3, v4, v5, v6, v7, v8]))] t.heap ∧ va_K (dC, dI) vwCl [] t ∧ va_D (va_A [(h0, .inr (23, [v0, v1, v2, v3, v4, v5, v6, v7, v8]))] sz) [(h0, .inr (23, [.int 1, v1, v2, v3, v4, v5, v6, v7, v8]))]) (va_A [(h0, .inr (23, [v0, v1, v2, v3, v4, v5, v6, v7, v8]))] sz)) 0 0 (va_A [(h0, .inr (23, [v0, v1, v2, v3, v4, v5, v6, v7, v8]))] sz) := by
  refine Met.ofW (cc := cX16_start) (maxL := 3) (ret := (some .boolean)) (by decide) rfl ?_
  intro p e s m args below meth c s₁ B hml hv
  obtain ⟨rfl, hsz, hP, hK, hD0, hF⟩ := hv
  have hx := B.exec
  have hb := B.bytes
  have hr := B.returns
  have hts := atoms_spec (ws := wsX16_start) B.pre
  have hown : s.vm.findClass RX16 = some m.cls := findClass_of_methodNamed B.named
  have hlocks := B.notSynchronized
  subst hsz
  have hD := hD0.self (sz := s.heap.size)
  generalize hAe : va_A [(h0, .inr (23, [v0, v1, v2, v3, v4, v5, v6, v7, v8]))] s.heap.size = A at hD hF ⊢
  have hA : ∀ q : Nat, s.heap.size ≤ q → A q := fun q h => by rw [← hAe]; exact Or.inr h
  have hS : va_S A s.heap s.heap [] := va_S.rf
  have hP : va_P (dC, dI) vwCl [(h0, .inr (23, [v0, v1, v2, v3, v4, v5, v6, v7, v8]))] s.heap := hP
  have hl := lv_entry ([.ref h0, .int 1, .int 1]) (n := 3) (Nat.le_of_ble_eq_true rfl)
  rw [lg_entry_eq]
  generalize (lg_sl ([.ref h0, .int 1, .int 1]) ++ List.replicate (3 - (lg_sl ([.ref h0, .int 1, .int 1])).length) Slot.unset).toArray = ls at hl ⊢
  have hl : lv_has ls 3 [(0, .ref h0), (1, .int 1), (2, .int 1)] := hl
  refine lv_aload_n hx hb dX16_start_0 rfl (lv_at hl 0 rfl) ?_
  refine lv_iconst (v := 0) hx hb dX16_start_1 (by decide) ?_
  refine va_put (D := (dC, dI)) (ci := 23) (v := .int 0) (ty := .int) (C := RX16) (T := TX16) (N := 9) hx hb hts (by decide +kernel) tyX16 tyX16_ok nmX16 hown hK hP hD hS 0 rfl rfl 0 (by decide) (hts (.fieldLink RX16 176 "NestprintModel" "thrown" "I") (by decide +kernel)) (fun _ h9 => h9) rfl (by decide +kernel) rfl rfl (Nat.le_of_ble_eq_true rfl) dX16_start_2 (fun H locs hP hD hS => ?_)
  have hP : va_P (dC, dI) vwCl [(h0, .inr (23, [.int 0, v1, v2, v3, v4, v5, v6, v7, v8]))] H := hP
  have hD : va_D A [(h0, .inr (23, [.int 0, v1, v2, v3, v4, v5, v6, v7, v8]))] := hD
  refine lv_aload_n hx hb dX16_start_5 rfl (lv_at hl 0 rfl) ?_
  refine lv_iload_n hx hb dX16_start_6 rfl (lv_at hl 1 rfl) ?_
  refine lv_iload_n hx hb dX16_start_7 rfl (lv_at hl 2 rfl) ?_
  have hPc := hP.sub (ws' := [(h0, .inr (23, [.int 0, v1, v2, v3, v4, v5, v6, v7, v8]))]) [0] rfl
  have hDc := hD.sub (ws' := [(h0, .inr (23, [.int 0, v1, v2, v3, v4, v5, v6, v7, v8]))]) [0] (by decide) rfl
  have hKc := hK.sub (tys' := []) [] rfl
  have hFc := va_free (wc := [(h0, .inr (23, [.int 0, v1, v2, v3, v4, v5, v6, v7, v8]))]) hD hS hA [0] rfl
  refine va_calli (va_runV (As := [.int 1, .int 1]) (rest := []) ⟨hx, hb, hml, hown, hts⟩ (kX16_refuse l dC dI g H.size h0 v1 v2 v3 v4 v5 v6 v7 v8 ) (cwV 2 hts gX16_start_X16_refuse rfl rfl rfl (by decide +kernel) ⟨Nat.le_of_ble_eq_true rfl, Nat.le_of_ble_eq_true rfl⟩) ⟨fun a U gg mk q => by obtain ⟨q0, q1, qP, qK, qD, qF⟩ := q; exact ⟨q0, q1, qP, va_K.moved (u := U) (U := U.calling gg mk a) (Vm.Alike.refl U.vm) qK, qD, ns_same qF⟩, va_recv hK hP (ci := 23) (q0 := 0) rfl rfl, fun U hU hW => ⟨rfl, by rw [hU], by rw [hU]; exact hPc, va_K.moved hW.alike hKc, hDc.weaken (fun _ _ _ _ => trivial), ns_call hF hS hFc hU hW⟩⟩ rfl rfl hl.1 rfl (lv_room (Nat.le_of_ble_eq_true rfl)) dX16_start_8 ⟨Nat.le_of_ble_eq_true rfl, Nat.le_of_ble_eq_true rfl⟩) hS (fun q _ h => hFc q h) hFc (fun r9 u t H1 locs ht hvm hw hB hz1 hk1 hS => ?_)
  obtain rfl := hw
  obtain ⟨hP1, hK1, hD1⟩ := hB
  rw [ht] at hP1
  have hK1 := va_K.moved hvm.symm hK1
  obtain ⟨hP, hD⟩ := va_join (wr := []) (w1 := [(h0, .inr (23, [.int 1, v1, v2, v3, v4, v5, v6, v7, v8]))]) hP hD [0] [] rfl rfl (by decide) (by decide) hk1 hFc hP1 hD1
  have hK := (hK.sub (tys' := []) [] rfl).app hK1
  generalize H1 = H at hP hS ⊢
  have hP : va_P (dC, dI) vwCl [(h0, .inr (23, [.int 1, v1, v2, v3, v4, v5, v6, v7, v8]))] H := hP
  have hD : va_D A [(h0, .inr (23, [.int 1, v1, v2, v3, v4, v5, v6, v7, v8]))] := hD
  have hK : va_K (dC, dI) vwCl [] s := hK
  refine W.widen (k := 0) (n := 0) (Nat.le_of_ble_eq_true rfl) (Nat.le_of_ble_eq_true rfl) ?_
  have hP9 := hP.sub (ws' := [(h0, .inr (23, [.int 1, v1, v2, v3, v4, v5, v6, v7, v8]))]) [0] rfl
  have hD9 := hD.sub (ws' := [(h0, .inr (23, [.int 1, v1, v2, v3, v4, v5, v6, v7, v8]))]) [0] (by decide) rfl
  have hK9 := hK.sub (tys' := []) [] rfl
  refine W.widen (k := 0) (n := 0) (Nat.le_of_ble_eq_true rfl) (Nat.le_of_ble_eq_true rfl) ?_
  exact W.zret (v := 1) hx hb hr (by decide) (fun t ht hW => ⟨⟨_, (), rfl, rfl, by rw [ht]; exact hP9, va_K.moved hW.alike hK9, hD9⟩, hS.F ht⟩) hS.2.2 dX16_start_11
set_option maxHeartbeats 4000000 in
set_option maxRecDepth 100000 in
theorem kX16_word (l : Launch) (dC : Nat → ClassId) (dI : Nat → Nat → Nat) (g : Nat → Nat) (sz : Nat) (h0 : Nat) (x0 : Int32) (x1 : Int32) (v0 : Value) (v1 : Value) (v2 : Value) (v3 : Value) (v4 : Value) (v5 : Value) (v6 : Value) (v7 : Value) (v8 : Value) (ex0 : (-2147483648 : Int) ≤ x0.toInt ∧ x0.toInt ≤ (-1 : Int)) (ex1 : (-2147483648 : Int) ≤ x1.toInt ∧ x1.toInt ≤ (0 : Int)) : Met l yX16_word wsX16_word ({ frames := 2, cells := 0, slots := 0, locals := 44 }) (va_Pc [.ref h0, .int x0, .int x1] (fun U => U.heap.size = sz ∧ va_P (dC, dI) vwCl [(h0, .inr (23, [v0, v1, v2, v3, v4, v5, v6, v7, v8]))] U.heap ∧ va_K (dC, dI) vwCl [] U ∧ va_D (fun _ => True) [(h0, .inr (23, [v0, v1, v2, v3, v4, v5, v6, v7, v8]))] ∧ ns_F g (va_A [(h0, .inr (23, [v0, v1, v2, v3, v4, v5, v6, v7, v8]))] sz) U U.heap)) (va_Qi (fun (r : Int32) (_ : Unit) => r = 0) (fun _ t => va_P (dC, dI) vwCl [(h0, .inr (23, [.int 1, v1, v2, v3, v4, v5, v6, v7, v8]))] t.heap ∧ va_K (dC, dI) vwCl [] t ∧ va_D (va_A [(h0, .inr (23, [v0, v1, v2, v3, v4, v5, v6, v7, v8]))] sz) [(h0, .inr (23, [.int 1, v1, v2, v3, v4, v5, v6, v7, v8]))]) (va_A [(h0, .inr (23, [v0, v1, v2, v3, v4, v5, v6, v7, v8]))] sz)) 0 0 (va_A [(h0, .inr (23, [v0, v1, v2, v3, v4, v5, v6, v7, v8]))] sz) := by
  refine Met.ofW (cc := cX16_word) (maxL := 5) (ret := (some .int)) (by decide) rfl ?_
  intro p e s m args below meth c s₁ B hml hv
  obtain ⟨rfl, hsz, hP, hK, hD0, hF⟩ := hv
  have hx := B.exec
  have hb := B.bytes
  have hr := B.returns
  have hts := atoms_spec (ws := wsX16_word) B.pre
  have hown : s.vm.findClass RX16 = some m.cls := findClass_of_methodNamed B.named
  have hlocks := B.notSynchronized
  subst hsz
  have hD := hD0.self (sz := s.heap.size)
  generalize hAe : va_A [(h0, .inr (23, [v0, v1, v2, v3, v4, v5, v6, v7, v8]))] s.heap.size = A at hD hF ⊢
  have hA : ∀ q : Nat, s.heap.size ≤ q → A q := fun q h => by rw [← hAe]; exact Or.inr h
  have hS : va_S A s.heap s.heap [] := va_S.rf
  have hP : va_P (dC, dI) vwCl [(h0, .inr (23, [v0, v1, v2, v3, v4, v5, v6, v7, v8]))] s.heap := hP
  have hl := lv_entry ([.ref h0, .int x0, .int x1]) (n := 5) (Nat.le_of_ble_eq_true rfl)
  rw [lg_entry_eq]
  generalize (lg_sl ([.ref h0, .int x0, .int x1]) ++ List.replicate (5 - (lg_sl ([.ref h0, .int x0, .int x1])).length) Slot.unset).toArray = ls at hl ⊢
  have hl : lv_has ls 5 [(0, .ref h0), (1, .int x0), (2, .int x1)] := hl
  refine lv_aload_n hx hb dX16_word_0 rfl (lv_at hl 0 rfl) ?_
  refine lv_iload_n hx hb dX16_word_1 rfl (lv_at hl 1 rfl) ?_
  refine lv_iconst (v := 0) hx hb dX16_word_2 (by decide) ?_
  refine lv_bipush (v := 25) hx hb dX16_word_3 (by decide) ?_
  have hPc := hP.sub (ws' := []) [] rfl
  have hDc := hD.sub (ws' := []) [] (by decide) rfl
  have hKc := hK.sub (tys' := []) [] rfl
  have hFc := va_free (wc := []) hD hS hA [] rfl
  refine va_calli (va_runS (As := [.int x0, .int 0, .int 25]) (rest := [.ref h0]) ⟨hx, hb, hml, hown, hts⟩ (kX16_isIn l dC dI g s.heap.size x0 ⟨by omega, by omega⟩) (va_cwS 3 hts gX16_word_X16_isIn rfl rfl rfl (by decide +kernel) ⟨Nat.le_of_ble_eq_true rfl, Nat.le_of_ble_eq_true rfl⟩) ⟨fun a U gg mk q => by obtain ⟨q0, q1, qP, qK, qD, qF⟩ := q; exact ⟨q0, q1, qP, va_K.moved (u := U) (U := U.calling gg mk a) (Vm.Alike.refl U.vm) qK, qD, ns_same qF⟩, fun U hU hW => ⟨rfl, by rw [hU], by rw [hU]; exact hPc, va_K.moved hW.alike hKc, hDc.weaken (fun _ _ _ _ => trivial), ns_call hF hS hFc hU hW⟩⟩ rfl rfl hl.1 rfl (lv_room (Nat.le_of_ble_eq_true rfl)) dX16_word_5 ⟨Nat.le_of_ble_eq_true rfl, Nat.le_of_ble_eq_true rfl⟩) hS (fun q _ h => hFc q h) hFc (fun r9 u t H1 locs ht hvm hw hB hz1 hk1 hS => ?_)
  obtain rfl := hw
  obtain ⟨hP1, hK1, hD1⟩ := hB
  rw [ht] at hP1
  have hK1 := va_K.moved hvm.symm hK1
  obtain ⟨hP, hD⟩ := va_join (wr := [(h0, .inr (23, [v0, v1, v2, v3, v4, v5, v6, v7, v8]))]) (w1 := []) hP hD [] [0] rfl rfl (by decide) (by decide) hk1 hFc hP1 hD1
  have hK := (hK.sub (tys' := []) [] rfl).app hK1
  generalize H1 = H at hP hS ⊢
  have hP : va_P (dC, dI) vwCl [(h0, .inr (23, [v0, v1, v2, v3, v4, v5, v6, v7, v8]))] H := hP
  have hD : va_D A [(h0, .inr (23, [v0, v1, v2, v3, v4, v5, v6, v7, v8]))] := hD
  have hK : va_K (dC, dI) vwCl [] s := hK
  refine W.widen (k := 0) (n := 0) (Nat.le_of_ble_eq_true rfl) (Nat.le_of_ble_eq_true rfl) ?_
  refine lv_if_eq (tgt := 21) hx hb dX16_word_8 (by decide) (fun c1 => ?_) (fun c1 => absurd (by decide) c1)
  refine lv_iconst (v := 1) hx hb dX16_word_21 (by decide) ?_
  refine lv_goto (tgt := 26) hx hb dX16_word_22 (by decide) ?_
  refine lv_iconst (v := 1) hx hb dX16_word_26 (by decide) ?_
  have hPc := hP.sub (ws' := [(h0, .inr (23, [v0, v1, v2, v3, v4, v5, v6, v7, v8]))]) [0] rfl
  have hDc := hD.sub (ws' := [(h0, .inr (23, [v0, v1, v2, v3, v4, v5, v6, v7, v8]))]) [0] (by decide) rfl
  have hKc := hK.sub (tys' := []) [] rfl
  have hFc := va_free (wc := [(h0, .inr (23, [v0, v1, v2, v3, v4, v5, v6, v7, v8]))]) hD hS hA [0] rfl
  refine va_calli (va_runV (As := [.int 1, .int 1]) (rest := []) ⟨hx, hb, hml, hown, hts⟩ (kX16_start l dC dI g H.size h0 v0 v1 v2 v3 v4 v5 v6 v7 v8 ) (cwV 2 hts gX16_word_X16_start rfl rfl rfl (by decide +kernel) ⟨Nat.le_of_ble_eq_true rfl, Nat.le_of_ble_eq_true rfl⟩) ⟨fun a U gg mk q => by obtain ⟨q0, q1, qP, qK, qD, qF⟩ := q; exact ⟨q0, q1, qP, va_K.moved (u := U) (U := U.calling gg mk a) (Vm.Alike.refl U.vm) qK, qD, ns_same qF⟩, va_recv hK hP (ci := 23) (q0 := 0) rfl rfl, fun U hU hW => ⟨rfl, by rw [hU], by rw [hU]; exact hPc, va_K.moved hW.alike hKc, hDc.weaken (fun _ _ _ _ => trivial), ns_call hF hS hFc hU hW⟩⟩ rfl rfl hl.1 rfl (lv_room (Nat.le_of_ble_eq_true rfl)) dX16_word_27 ⟨Nat.le_of_ble_eq_true rfl, Nat.le_of_ble_eq_true rfl⟩) hS (fun q _ h => hFc q h) hFc (fun r9 u t H1 locs ht hvm hw hB hz1 hk1 hS => ?_)
  obtain rfl := hw
  obtain ⟨hP1, hK1, hD1⟩ := hB
  rw [ht] at hP1
  have hK1 := va_K.moved hvm.symm hK1
  obtain ⟨hP, hD⟩ := va_join (wr := []) (w1 := [(h0, .inr (23, [.int 1, v1, v2, v3, v4, v5, v6, v7, v8]))]) hP hD [0] [] rfl rfl (by decide) (by decide) hk1 hFc hP1 hD1
  have hK := (hK.sub (tys' := []) [] rfl).app hK1
  generalize H1 = H at hP hS ⊢
  have hP : va_P (dC, dI) vwCl [(h0, .inr (23, [.int 1, v1, v2, v3, v4, v5, v6, v7, v8]))] H := hP
  have hD : va_D A [(h0, .inr (23, [.int 1, v1, v2, v3, v4, v5, v6, v7, v8]))] := hD
  have hK : va_K (dC, dI) vwCl [] s := hK
  refine W.widen (k := 0) (n := 0) (Nat.le_of_ble_eq_true rfl) (Nat.le_of_ble_eq_true rfl) ?_
  refine lv_if_ne (tgt := 45) hx hb dX16_word_30 (by decide) (fun c2 => ?_) (fun c2 => absurd c2 (by decide))
  refine lv_iconst (v := 0) hx hb dX16_word_45 (by decide) ?_
  have hP9 := hP.sub (ws' := [(h0, .inr (23, [.int 1, v1, v2, v3, v4, v5, v6, v7, v8]))]) [0] rfl
  have hD9 := hD.sub (ws' := [(h0, .inr (23, [.int 1, v1, v2, v3, v4, v5, v6, v7, v8]))]) [0] (by decide) rfl
  have hK9 := hK.sub (tys' := []) [] rfl
  refine W.widen (k := 0) (n := 0) (Nat.le_of_ble_eq_true rfl) (Nat.le_of_ble_eq_true rfl) ?_
  exact W.iret (v := 0) hx hb hr (fun t ht hW => ⟨⟨_, (), rfl, rfl, by rw [ht]; exact hP9, va_K.moved hW.alike hK9, hD9⟩, hS.F ht⟩) hS.2.2 dX16_word_46
set_option maxHeartbeats 4000000 in
set_option maxRecDepth 100000 in
theorem kX16_thrown (l : Launch) (dC : Nat → ClassId) (dI : Nat → Nat → Nat) (g : Nat → Nat) (sz : Nat) (h0 : Nat) (v0 : Value) (v1 : Value) (v2 : Value) (v3 : Value) (v4 : Value) (v5 : Value) (v6 : Value) (v7 : Value) : Met l yX16_thrown wsX16_thrown ({ frames := 0, cells := 0, slots := 0, locals := 0 }) (va_Pc [.ref h0] (fun U => U.heap.size = sz ∧ va_P (dC, dI) vwCl [(h0, .inr (23, [.int 1, v0, v1, v2, v3, v4, v5, v6, v7]))] U.heap ∧ va_K (dC, dI) vwCl [] U ∧ va_D (fun _ => True) [(h0, .inr (23, [.int 1, v0, v1, v2, v3, v4, v5, v6, v7]))] ∧ ns_F g (va_A [(h0, .inr (23, [.int 1, v0, v1, v2, v3, v4, v5, v6, v7]))] sz) U U.heap)) (va_Qi (fun (r : Int32) (_ : Unit) => r = 1) (fun _ t => va_P (dC, dI) vwCl [(h0, .inr (23, [.int 1, v0, v1, v2, v3, v4, v5, v6, v7]))] t.heap ∧ va_K (dC, dI) vwCl [] t ∧ va_D (va_A [(h0, .inr (23, [.int 1, v0, v1, v2, v3, v4, v5, v6, v7]))] sz) [(h0, .inr (23, [.int 1, v0, v1, v2, v3, v4, v5, v6, v7]))]) (va_A [(h0, .inr (23, [.int 1, v0, v1, v2, v3, v4, v5, v6, v7]))] sz)) 0 0 (va_A [(h0, .inr (23, [.int 1, v0, v1, v2, v3, v4, v5, v6, v7]))] sz) := by
  refine Met.ofW (cc := cX16_thrown) (maxL := 1) (ret := (some .int)) (by decide) rfl ?_
  intro p e s m args below meth c s₁ B hml hv
  obtain ⟨rfl, hsz, hP, hK, hD0, hF⟩ := hv
  have hx := B.exec
  have hb := B.bytes
  have hr := B.returns
  have hts := atoms_spec (ws := wsX16_thrown) B.pre
  have hown : s.vm.findClass RX16 = some m.cls := findClass_of_methodNamed B.named
  have hlocks := B.notSynchronized
  subst hsz
  have hD := hD0.self (sz := s.heap.size)
  generalize hAe : va_A [(h0, .inr (23, [.int 1, v0, v1, v2, v3, v4, v5, v6, v7]))] s.heap.size = A at hD hF ⊢
  have hA : ∀ q : Nat, s.heap.size ≤ q → A q := fun q h => by rw [← hAe]; exact Or.inr h
  have hS : va_S A s.heap s.heap [] := va_S.rf
  have hP : va_P (dC, dI) vwCl [(h0, .inr (23, [.int 1, v0, v1, v2, v3, v4, v5, v6, v7]))] s.heap := hP
  have hl := lv_entry ([.ref h0]) (n := 1) (Nat.le_of_ble_eq_true rfl)
  rw [lg_entry_eq]
  generalize (lg_sl ([.ref h0]) ++ List.replicate (1 - (lg_sl ([.ref h0])).length) Slot.unset).toArray = ls at hl ⊢
  have hl : lv_has ls 1 [(0, .ref h0)] := hl
  refine lv_aload_n hx hb dX16_thrown_0 rfl (lv_at hl 0 rfl) ?_
  refine va_get (D := (dC, dI)) (ci := 23) (v := .int 1) (C := RX16) (T := TX16) (N := 9) hx hb hts (by decide +kernel) hown hK hP 0 rfl rfl 0 (by decide) (hts (.fieldLink RX16 176 "NestprintModel" "thrown" "I") (by decide +kernel)) (fun _ h9 => h9) rfl dX16_thrown_1 ?_
  have hP9 := hP.sub (ws' := [(h0, .inr (23, [.int 1, v0, v1, v2, v3, v4, v5, v6, v7]))]) [0] rfl
  have hD9 := hD.sub (ws' := [(h0, .inr (23, [.int 1, v0, v1, v2, v3, v4, v5, v6, v7]))]) [0] (by decide) rfl
  have hK9 := hK.sub (tys' := []) [] rfl
  refine W.widen (k := 0) (n := 0) (Nat.le_of_ble_eq_true rfl) (Nat.le_of_ble_eq_true rfl) ?_
  exact W.iret (v := 1) hx hb hr (fun t ht hW => ⟨⟨_, (), rfl, rfl, by rw [ht]; exact hP9, va_K.moved hW.alike hK9, hD9⟩, hS.F ht⟩) hS.2.2 dX16_thrown_4
set_option maxHeartbeats 4000000 in
set_option maxRecDepth 100000 in
theorem kX9_word_2 (l : Launch) (dC : Nat → ClassId) (dI : Nat → Nat → Nat) (g : Nat → Nat) (sz : Nat) (h0 : Nat) (x0 : Int32) (ex0 : (-2147483648 : Int) ≤ x0.toInt ∧ x0.toInt ≤ (-1 : Int)) (hlt : l.stackTraces = false) : vx_Met l yX9_word wsX9_word ({ frames := 6, cells := 1, slots := 6, locals := 82 }) (va_Pc [.ref h0, .int x0, .int 1] (fun U => U.heap.size = sz ∧ va_P (dC, dI) vwCl [] U.heap ∧ va_K (dC, dI) vwCl [] U ∧ va_D (fun _ => True) [] ∧ ns_F g (va_A [] sz) U U.heap)) (va_Qv (fun _ : Unit => False) (fun _ _ => True) (va_A [] sz)) (vx_X (fun _ : Unit => True) (fun E _ _ => E = "java/lang/IllegalArgumentException") (va_A [] sz)) 1 6 (va_A [] sz) := by
  refine vx_ofW (cc := cX9_word) (maxL := 4) (ret := (some .int)) (by decide) rfl ?_
  intro p e s m args below meth c s₁ B hml hnox hv
  obtain ⟨rfl, hsz, hP, hK, hD0, hF⟩ := hv
  have hx := B.exec
  have hb := B.bytes
  have hr := B.returns
  have hts := atoms_spec (ws := wsX9_word) B.pre
  have hown : s.vm.findClass RX9 = some m.cls := findClass_of_methodNamed B.named
  have hlocks := B.notSynchronized
  subst hsz
  have hD := hD0.self (sz := s.heap.size)
  generalize hAe : va_A [] s.heap.size = A at hD hF ⊢
  have hA : ∀ q : Nat, s.heap.size ≤ q → A q := fun q h => by rw [← hAe]; exact Or.inr h
  have hS : va_S A s.heap s.heap [] := va_S.rf
  have hP : va_P (dC, dI) vwCl [] s.heap := hP
  have hl := lv_entry ([.ref h0, .int x0, .int 1]) (n := 4) (Nat.le_of_ble_eq_true rfl)
  rw [lg_entry_eq]
  generalize (lg_sl ([.ref h0, .int x0, .int 1]) ++ List.replicate (4 - (lg_sl ([.ref h0, .int x0, .int 1])).length) Slot.unset).toArray = ls at hl ⊢
  have hl : lv_has ls 4 [(0, .ref h0), (1, .int x0), (2, .int 1)] := hl
  refine lv_iload_n hx hb dX9_word_0 rfl (lv_at hl 1 rfl) ?_
  refine lv_if_lt (tgt := 10) hx hb dX9_word_1 (by decide) (fun c1 => ?_) (fun c1 => absurd (Int32.lt_iff_toInt_lt.mpr (show x0.toInt < (0 : Int) by omega)) c1)
  exact vx_throwS hx hb hlt (text := "letter is 0 to 25") (sa := (g 10)) (names := ["java/lang/RuntimeException", "java/lang/Exception"]) hown (by decide) (by decide) (hts (.classLink RX9 100 "java/lang/IllegalArgumentException") (by decide +kernel)) (hts (.initialized "java/lang/IllegalArgumentException") (by decide +kernel)) (ns_f20 hF) (vx_hat (B := [.declares ⟨"java/lang/RuntimeException", "<init>", "(Ljava/lang/String;)V"⟩, .declares ⟨"java/lang/Exception", "<init>", "(Ljava/lang/String;)V"⟩, .declares ⟨"java/lang/Throwable", "<init>", "(Ljava/lang/String;)V"⟩, .castable "java/lang/IllegalArgumentException" "java/lang/IllegalArgumentException"]) (fun w9 h9 => hts w9 (List.mem_cons_of_mem _ ((fun h9 => List.mem_append_left _ (List.mem_append_left _ (List.mem_append_right _ h9))) h9))) (by decide +kernel) (vx_c (va_Nw.use rfl (ns_f12 hF)) (vx_c (va_Nw.use rfl (ns_f13 hF)) (vx_c (va_Nw.use rfl (ns_f14 hF)) (vx_c (va_Nw.use rfl (ns_f11 hF)) vx_n))))) (by decide +kernel) (ns_f17 hF) (ns_f18 hF) hS (by rw [hml]; exact hl.1) dX9_word_10 dX9_word_13 dX9_word_14 dX9_word_16 dX9_word_19 (fun x hx => (hnox x hx).elim) (Nat.le_of_ble_eq_true rfl) (Nat.le_of_ble_eq_true rfl) (Nat.le_of_ble_eq_true rfl) (Nat.le_of_ble_eq_true rfl) hlocks (fun t9 hal hsz9 hk9 => ⟨(), trivial, rfl, Nat.le_trans hS.1 hsz9, fun q hq1 hq2 => (hk9 q (Nat.lt_of_lt_of_le hq1 hS.1)).trans (hS.2.1 q hq1 hq2)⟩) hS.2.2 (Nat.le_of_ble_eq_true rfl) (Nat.le_of_ble_eq_true rfl)
set_option maxHeartbeats 4000000 in
set_option maxRecDepth 100000 in
theorem kL_word_2 (l : Launch) (dC : Nat → ClassId) (dI : Nat → Nat → Nat) (g : Nat → Nat) (sz : Nat) (h0 : Nat) (x0 : Int32) (h1 : Nat) (v0 : Value) (v1 : Value) (v2 : Value) (v3 : Value) (v4 : Value) (v5 : Value) (v6 : Value) (v7 : Value) (v8 : Value) (v9 : Value) (v10 : Value) (v11 : Value) (v12 : Value) (v13 : Value) (v14 : Value) (v15 : Value) (ex0 : (-2147483648 : Int) ≤ x0.toInt ∧ x0.toInt ≤ (-1 : Int)) (hlt : l.stackTraces = false) : Met l yL_word wsL_word ({ frames := 7, cells := 1, slots := 6, locals := 105 }) (va_Pc [.ref h0, .int x0, .int 1, .ref h1] (fun U => U.heap.size = sz ∧ va_P (dC, dI) vwCl [(h0, .inr (16, [v0, v1, v2, v3, v4, v5, v6, v7, v8, v9, v10, v11, v12, v13, v14, v15]))] U.heap ∧ va_K (dC, dI) vwCl [] U ∧ va_D (fun _ => True) [(h0, .inr (16, [v0, v1, v2, v3, v4, v5, v6, v7, v8, v9, v10, v11, v12, v13, v14, v15]))] ∧ ns_F g (va_A [(h0, .inr (16, [v0, v1, v2, v3, v4, v5, v6, v7, v8, v9, v10, v11, v12, v13, v14, v15]))] sz) U U.heap)) (va_Qi (fun (r : Int32) (_ : Unit) => r = 1) (fun _ t => va_P (dC, dI) vwCl [(h0, .inr (16, [v0, v1, v2, v3, v4, v5, v6, v7, v8, v9, v10, v11, v12, v13, v14, v15]))] t.heap ∧ va_K (dC, dI) vwCl [] t ∧ va_D (va_A [(h0, .inr (16, [v0, v1, v2, v3, v4, v5, v6, v7, v8, v9, v10, v11, v12, v13, v14, v15]))] sz) [(h0, .inr (16, [v0, v1, v2, v3, v4, v5, v6, v7, v8, v9, v10, v11, v12, v13, v14, v15]))]) (va_A [(h0, .inr (16, [v0, v1, v2, v3, v4, v5, v6, v7, v8, v9, v10, v11, v12, v13, v14, v15]))] sz)) 1 6 (va_A [(h0, .inr (16, [v0, v1, v2, v3, v4, v5, v6, v7, v8, v9, v10, v11, v12, v13, v14, v15]))] sz) := by
  refine va_MetW (cc := cL_word) (maxL := 5) (ret := (some .int)) (hh := [(0, 11, 14, 19), (0, 11, 18, 21)]) (by decide) rfl ?_
  intro p e s m args below meth c s₁ B hml hv
  obtain ⟨rfl, hsz, hP, hK, hD0, hF⟩ := hv
  have hx := B.exec
  have hb := B.bytes
  have hr := B.returns
  have hts := atoms_spec (ws := wsL_word) B.pre
  have hown : s.vm.findClass RL = some m.cls := findClass_of_methodNamed B.named
  have hlocks := B.notSynchronized
  have htab : c.exceptionTable.toList = [⟨0, 11, 14, 19⟩, ⟨0, 11, 18, 21⟩] := vx_table B (hts _ List.mem_cons_self)
  subst hsz
  have hD := hD0.self (sz := s.heap.size)
  generalize hAe : va_A [(h0, .inr (16, [v0, v1, v2, v3, v4, v5, v6, v7, v8, v9, v10, v11, v12, v13, v14, v15]))] s.heap.size = A at hD hF ⊢
  have hA : ∀ q : Nat, s.heap.size ≤ q → A q := fun q h => by rw [← hAe]; exact Or.inr h
  have hS : va_S A s.heap s.heap [] := va_S.rf
  have hP : va_P (dC, dI) vwCl [(h0, .inr (16, [v0, v1, v2, v3, v4, v5, v6, v7, v8, v9, v10, v11, v12, v13, v14, v15]))] s.heap := hP
  have hl := lv_entry ([.ref h0, .int x0, .int 1, .ref h1]) (n := 5) (Nat.le_of_ble_eq_true rfl)
  rw [lg_entry_eq]
  generalize (lg_sl ([.ref h0, .int x0, .int 1, .ref h1]) ++ List.replicate (5 - (lg_sl ([.ref h0, .int x0, .int 1, .ref h1])).length) Slot.unset).toArray = ls at hl ⊢
  have hl : lv_has ls 5 [(0, .ref h0), (1, .int x0), (2, .int 1), (3, .ref h1)] := hl
  refine lv_aload_n hx hb dL_word_0 rfl (lv_at hl 3 rfl) ?_
  refine lv_aload_n hx hb dL_word_1 rfl (lv_at hl 0 rfl) ?_
  refine lv_iload_n hx hb dL_word_2 rfl (lv_at hl 1 rfl) ?_
  refine lv_iload_n hx hb dL_word_3 rfl (lv_at hl 2 rfl) ?_
  have hPc := hP.sub (ws' := []) [] rfl
  have hDc := hD.sub (ws' := []) [] (by decide) rfl
  have hKc := hK.sub (tys' := []) [] rfl
  have hFc := va_free (wc := []) hD hS hA [] rfl
  refine vx_callv (vx_runV (As := [.int x0, .int 1]) (rest := [.ref h1]) ⟨hx, hb, hml, hown, hts⟩ (kX9_word_2 l dC dI g s.heap.size h0 x0 ⟨by omega, by omega⟩ hlt) (cwV 2 hts gL_word_X9_word rfl rfl rfl (by decide +kernel) ⟨Nat.le_of_ble_eq_true rfl, Nat.le_of_ble_eq_true rfl⟩) ⟨fun a U gg mk q => by obtain ⟨q0, q1, qP, qK, qD, qF⟩ := q; exact ⟨q0, q1, qP, va_K.moved (u := U) (U := U.calling gg mk a) (Vm.Alike.refl U.vm) qK, qD, ns_same qF⟩, va_recv hK hP (ci := 16) (q0 := 0) rfl rfl, fun U hU hW => ⟨rfl, by rw [hU], by rw [hU]; exact hPc, va_K.moved hW.alike hKc, hDc.weaken (fun _ _ _ _ => trivial), ns_call hF hS hFc hU hW⟩⟩ rfl rfl hl.1 rfl (lv_room (Nat.le_of_ble_eq_true rfl)) dL_word_4 ⟨Nat.le_of_ble_eq_true rfl, Nat.le_of_ble_eq_true rfl⟩) hS (fun q _ h => hFc q h) hFc (fun q _ h => hFc q h) (fun E ce q9 u t H1 locs ht hvm hw hB hz1 hk1 hS hc1 hc2 hc3 => ?_) (fun _ _ _ _ _ _ hw _ _ _ _ => False.elim hw)
  obtain rfl : E = "java/lang/IllegalArgumentException" := hB
  obtain ⟨hP, hD⟩ := va_join (wr := [(h0, .inr (16, [v0, v1, v2, v3, v4, v5, v6, v7, v8, v9, v10, v11, v12, v13, v14, v15]))]) (w1 := []) hP hD [] [0] rfl rfl (by decide) (by decide) hk1 hFc (fun k q h => by simp at h) ⟨fun i j p q h => by simp at h, fun k q h => by simp at h⟩
  have hK := hK.sub (tys' := []) [] rfl
  generalize H1 = H at hP hS hc1 ⊢
  have hP : va_P (dC, dI) vwCl [(h0, .inr (16, [v0, v1, v2, v3, v4, v5, v6, v7, v8, v9, v10, v11, v12, v13, v14, v15]))] H := hP
  have hD : va_D A [(h0, .inr (16, [v0, v1, v2, v3, v4, v5, v6, v7, v8, v9, v10, v11, v12, v13, v14, v15]))] := hD
  have hK : va_K (dC, dI) vwCl [] s := hK
  refine vx_widen (k := 1) (n := 6) (Nat.le_of_ble_eq_true rfl) (Nat.le_of_ble_eq_true rfl) ?_
  refine vx_catch hown [] ⟨0, 11, 14, 19⟩ [⟨0, 11, 18, 21⟩] htab (fun z hz => by simp at hz) (by decide) (by decide) (hts (.classLink RL 19 "java/lang/IllegalArgumentException") (by decide +kernel)) (va_Nw.use rfl (ns_f11 hF)) hc1 hc2 hc3 ?_
  refine W.eq (g2 := F0 m 14 ls [.ref q9]) rfl ?_
  refine lv_astore (lv' := [(4, .ref q9), (0, .ref h0), (1, .int x0), (2, .int 1), (3, .ref h1)]) hx hb dL_word_14 hl (by decide) rfl (fun ls hl => ?_)
  refine lv_iconst (v := 1) hx hb dL_word_16 (by decide) ?_
  have hP9 := hP.sub (ws' := [(h0, .inr (16, [v0, v1, v2, v3, v4, v5, v6, v7, v8, v9, v10, v11, v12, v13, v14, v15]))]) [0] rfl
  have hD9 := hD.sub (ws' := [(h0, .inr (16, [v0, v1, v2, v3, v4, v5, v6, v7, v8, v9, v10, v11, v12, v13, v14, v15]))]) [0] (by decide) rfl
  have hK9 := hK.sub (tys' := []) [] rfl
  refine W.widen (k := 1) (n := 6) (Nat.le_of_ble_eq_true rfl) (Nat.le_of_ble_eq_true rfl) ?_
  exact W.iret (v := 1) hx hb hr (fun t ht hW => ⟨⟨_, (), rfl, rfl, by rw [ht]; exact hP9, va_K.moved hW.alike hK9, hD9⟩, hS.F ht⟩) hS.2.2 dL_word_17
set_option maxHeartbeats 4000000 in
set_option maxRecDepth 100000 in
theorem kX16_word_2 (l : Launch) (dC : Nat → ClassId) (dI : Nat → Nat → Nat) (g : Nat → Nat) (sz : Nat) (h0 : Nat) (x0 : Int32) (v0 : Value) (v1 : Value) (v2 : Value) (v3 : Value) (v4 : Value) (v5 : Value) (v6 : Value) (v7 : Value) (v8 : Value) (ex0 : (-2147483648 : Int) ≤ x0.toInt ∧ x0.toInt ≤ (-1 : Int)) : Met l yX16_word wsX16_word ({ frames := 2, cells := 0, slots := 0, locals := 44 }) (va_Pc [.ref h0, .int x0, .int 1] (fun U => U.heap.size = sz ∧ va_P (dC, dI) vwCl [(h0, .inr (23, [v0, v1, v2, v3, v4, v5, v6, v7, v8]))] U.heap ∧ va_K (dC, dI) vwCl [] U ∧ va_D (fun _ => True) [(h0, .inr (23, [v0, v1, v2, v3, v4, v5, v6, v7, v8]))] ∧ ns_F g (va_A [(h0, .inr (23, [v0, v1, v2, v3, v4, v5, v6, v7, v8]))] sz) U U.heap)) (va_Qi (fun (r : Int32) (_ : Unit) => r = 0) (fun _ t => va_P (dC, dI) vwCl [(h0, .inr (23, [.int 1, v1, v2, v3, v4, v5, v6, v7, v8]))] t.heap ∧ va_K (dC, dI) vwCl [] t ∧ va_D (va_A [(h0, .inr (23, [v0, v1, v2, v3, v4, v5, v6, v7, v8]))] sz) [(h0, .inr (23, [.int 1, v1, v2, v3, v4, v5, v6, v7, v8]))]) (va_A [(h0, .inr (23, [v0, v1, v2, v3, v4, v5, v6, v7, v8]))] sz)) 0 0 (va_A [(h0, .inr (23, [v0, v1, v2, v3, v4, v5, v6, v7, v8]))] sz) := by
  refine Met.ofW (cc := cX16_word) (maxL := 5) (ret := (some .int)) (by decide) rfl ?_
  intro p e s m args below meth c s₁ B hml hv
  obtain ⟨rfl, hsz, hP, hK, hD0, hF⟩ := hv
  have hx := B.exec
  have hb := B.bytes
  have hr := B.returns
  have hts := atoms_spec (ws := wsX16_word) B.pre
  have hown : s.vm.findClass RX16 = some m.cls := findClass_of_methodNamed B.named
  have hlocks := B.notSynchronized
  subst hsz
  have hD := hD0.self (sz := s.heap.size)
  generalize hAe : va_A [(h0, .inr (23, [v0, v1, v2, v3, v4, v5, v6, v7, v8]))] s.heap.size = A at hD hF ⊢
  have hA : ∀ q : Nat, s.heap.size ≤ q → A q := fun q h => by rw [← hAe]; exact Or.inr h
  have hS : va_S A s.heap s.heap [] := va_S.rf
  have hP : va_P (dC, dI) vwCl [(h0, .inr (23, [v0, v1, v2, v3, v4, v5, v6, v7, v8]))] s.heap := hP
  have hl := lv_entry ([.ref h0, .int x0, .int 1]) (n := 5) (Nat.le_of_ble_eq_true rfl)
  rw [lg_entry_eq]
  generalize (lg_sl ([.ref h0, .int x0, .int 1]) ++ List.replicate (5 - (lg_sl ([.ref h0, .int x0, .int 1])).length) Slot.unset).toArray = ls at hl ⊢
  have hl : lv_has ls 5 [(0, .ref h0), (1, .int x0), (2, .int 1)] := hl
  refine lv_aload_n hx hb dX16_word_0 rfl (lv_at hl 0 rfl) ?_
  refine lv_iload_n hx hb dX16_word_1 rfl (lv_at hl 1 rfl) ?_
  refine lv_iconst (v := 0) hx hb dX16_word_2 (by decide) ?_
  refine lv_bipush (v := 25) hx hb dX16_word_3 (by decide) ?_
  have hPc := hP.sub (ws' := []) [] rfl
  have hDc := hD.sub (ws' := []) [] (by decide) rfl
  have hKc := hK.sub (tys' := []) [] rfl
  have hFc := va_free (wc := []) hD hS hA [] rfl
  refine va_calli (va_runS (As := [.int x0, .int 0, .int 25]) (rest := [.ref h0]) ⟨hx, hb, hml, hown, hts⟩ (kX16_isIn l dC dI g s.heap.size x0 ⟨by omega, by omega⟩) (va_cwS 3 hts gX16_word_X16_isIn rfl rfl rfl (by decide +kernel) ⟨Nat.le_of_ble_eq_true rfl, Nat.le_of_ble_eq_true rfl⟩) ⟨fun a U gg mk q => by obtain ⟨q0, q1, qP, qK, qD, qF⟩ := q; exact ⟨q0, q1, qP, va_K.moved (u := U) (U := U.calling gg mk a) (Vm.Alike.refl U.vm) qK, qD, ns_same qF⟩, fun U hU hW => ⟨rfl, by rw [hU], by rw [hU]; exact hPc, va_K.moved hW.alike hKc, hDc.weaken (fun _ _ _ _ => trivial), ns_call hF hS hFc hU hW⟩⟩ rfl rfl hl.1 rfl (lv_room (Nat.le_of_ble_eq_true rfl)) dX16_word_5 ⟨Nat.le_of_ble_eq_true rfl, Nat.le_of_ble_eq_true rfl⟩) hS (fun q _ h => hFc q h) hFc (fun r9 u t H1 locs ht hvm hw hB hz1 hk1 hS => ?_)
  obtain rfl := hw
  obtain ⟨hP1, hK1, hD1⟩ := hB
  rw [ht] at hP1
  have hK1 := va_K.moved hvm.symm hK1
  obtain ⟨hP, hD⟩ := va_join (wr := [(h0, .inr (23, [v0, v1, v2, v3, v4, v5, v6, v7, v8]))]) (w1 := []) hP hD [] [0] rfl rfl (by decide) (by decide) hk1 hFc hP1 hD1
  have hK := (hK.sub (tys' := []) [] rfl).app hK1
  generalize H1 = H at hP hS ⊢
  have hP : va_P (dC, dI) vwCl [(h0, .inr (23, [v0, v1, v2, v3, v4, v5, v6, v7, v8]))] H := hP
  have hD : va_D A [(h0, .inr (23, [v0, v1, v2, v3, v4, v5, v6, v7, v8]))] := hD
  have hK : va_K (dC, dI) vwCl [] s := hK
  refine W.widen (k := 0) (n := 0) (Nat.le_of_ble_eq_true rfl) (Nat.le_of_ble_eq_true rfl) ?_
  refine lv_if_eq (tgt := 21) hx hb dX16_word_8 (by decide) (fun c1 => ?_) (fun c1 => absurd (by decide) c1)
  refine lv_iconst (v := 1) hx hb dX16_word_21 (by decide) ?_
  refine lv_goto (tgt := 26) hx hb dX16_word_22 (by decide) ?_
  refine lv_iconst (v := 1) hx hb dX16_word_26 (by decide) ?_
  have hPc := hP.sub (ws' := [(h0, .inr (23, [v0, v1, v2, v3, v4, v5, v6, v7, v8]))]) [0] rfl
  have hDc := hD.sub (ws' := [(h0, .inr (23, [v0, v1, v2, v3, v4, v5, v6, v7, v8]))]) [0] (by decide) rfl
  have hKc := hK.sub (tys' := []) [] rfl
  have hFc := va_free (wc := [(h0, .inr (23, [v0, v1, v2, v3, v4, v5, v6, v7, v8]))]) hD hS hA [0] rfl
  refine va_calli (va_runV (As := [.int 1, .int 1]) (rest := []) ⟨hx, hb, hml, hown, hts⟩ (kX16_start l dC dI g H.size h0 v0 v1 v2 v3 v4 v5 v6 v7 v8 ) (cwV 2 hts gX16_word_X16_start rfl rfl rfl (by decide +kernel) ⟨Nat.le_of_ble_eq_true rfl, Nat.le_of_ble_eq_true rfl⟩) ⟨fun a U gg mk q => by obtain ⟨q0, q1, qP, qK, qD, qF⟩ := q; exact ⟨q0, q1, qP, va_K.moved (u := U) (U := U.calling gg mk a) (Vm.Alike.refl U.vm) qK, qD, ns_same qF⟩, va_recv hK hP (ci := 23) (q0 := 0) rfl rfl, fun U hU hW => ⟨rfl, by rw [hU], by rw [hU]; exact hPc, va_K.moved hW.alike hKc, hDc.weaken (fun _ _ _ _ => trivial), ns_call hF hS hFc hU hW⟩⟩ rfl rfl hl.1 rfl (lv_room (Nat.le_of_ble_eq_true rfl)) dX16_word_27 ⟨Nat.le_of_ble_eq_true rfl, Nat.le_of_ble_eq_true rfl⟩) hS (fun q _ h => hFc q h) hFc (fun r9 u t H1 locs ht hvm hw hB hz1 hk1 hS => ?_)
  obtain rfl := hw
  obtain ⟨hP1, hK1, hD1⟩ := hB
  rw [ht] at hP1
  have hK1 := va_K.moved hvm.symm hK1
  obtain ⟨hP, hD⟩ := va_join (wr := []) (w1 := [(h0, .inr (23, [.int 1, v1, v2, v3, v4, v5, v6, v7, v8]))]) hP hD [0] [] rfl rfl (by decide) (by decide) hk1 hFc hP1 hD1
  have hK := (hK.sub (tys' := []) [] rfl).app hK1
  generalize H1 = H at hP hS ⊢
  have hP : va_P (dC, dI) vwCl [(h0, .inr (23, [.int 1, v1, v2, v3, v4, v5, v6, v7, v8]))] H := hP
  have hD : va_D A [(h0, .inr (23, [.int 1, v1, v2, v3, v4, v5, v6, v7, v8]))] := hD
  have hK : va_K (dC, dI) vwCl [] s := hK
  refine W.widen (k := 0) (n := 0) (Nat.le_of_ble_eq_true rfl) (Nat.le_of_ble_eq_true rfl) ?_
  refine lv_if_ne (tgt := 45) hx hb dX16_word_30 (by decide) (fun c2 => ?_) (fun c2 => absurd c2 (by decide))
  refine lv_iconst (v := 0) hx hb dX16_word_45 (by decide) ?_
  have hP9 := hP.sub (ws' := [(h0, .inr (23, [.int 1, v1, v2, v3, v4, v5, v6, v7, v8]))]) [0] rfl
  have hD9 := hD.sub (ws' := [(h0, .inr (23, [.int 1, v1, v2, v3, v4, v5, v6, v7, v8]))]) [0] (by decide) rfl
  have hK9 := hK.sub (tys' := []) [] rfl
  refine W.widen (k := 0) (n := 0) (Nat.le_of_ble_eq_true rfl) (Nat.le_of_ble_eq_true rfl) ?_
  exact W.iret (v := 0) hx hb hr (fun t ht hW => ⟨⟨_, (), rfl, rfl, by rw [ht]; exact hP9, va_K.moved hW.alike hK9, hD9⟩, hS.F ht⟩) hS.2.2 dX16_word_46
set_option maxHeartbeats 4000000 in
set_option maxRecDepth 100000 in
theorem kX9_word_3 (l : Launch) (dC : Nat → ClassId) (dI : Nat → Nat → Nat) (g : Nat → Nat) (sz : Nat) (h0 : Nat) (x0 : Int32) (ex0 : (-2147483648 : Int) ≤ x0.toInt ∧ x0.toInt ≤ (-1 : Int)) (hlt : l.stackTraces = false) : vx_Met l yX9_word wsX9_word ({ frames := 6, cells := 1, slots := 6, locals := 82 }) (va_Pc [.ref h0, .int x0, .int 2] (fun U => U.heap.size = sz ∧ va_P (dC, dI) vwCl [] U.heap ∧ va_K (dC, dI) vwCl [] U ∧ va_D (fun _ => True) [] ∧ ns_F g (va_A [] sz) U U.heap)) (va_Qv (fun _ : Unit => False) (fun _ _ => True) (va_A [] sz)) (vx_X (fun _ : Unit => True) (fun E _ _ => E = "java/lang/IllegalArgumentException") (va_A [] sz)) 1 6 (va_A [] sz) := by
  refine vx_ofW (cc := cX9_word) (maxL := 4) (ret := (some .int)) (by decide) rfl ?_
  intro p e s m args below meth c s₁ B hml hnox hv
  obtain ⟨rfl, hsz, hP, hK, hD0, hF⟩ := hv
  have hx := B.exec
  have hb := B.bytes
  have hr := B.returns
  have hts := atoms_spec (ws := wsX9_word) B.pre
  have hown : s.vm.findClass RX9 = some m.cls := findClass_of_methodNamed B.named
  have hlocks := B.notSynchronized
  subst hsz
  have hD := hD0.self (sz := s.heap.size)
  generalize hAe : va_A [] s.heap.size = A at hD hF ⊢
  have hA : ∀ q : Nat, s.heap.size ≤ q → A q := fun q h => by rw [← hAe]; exact Or.inr h
  have hS : va_S A s.heap s.heap [] := va_S.rf
  have hP : va_P (dC, dI) vwCl [] s.heap := hP
  have hl := lv_entry ([.ref h0, .int x0, .int 2]) (n := 4) (Nat.le_of_ble_eq_true rfl)
  rw [lg_entry_eq]
  generalize (lg_sl ([.ref h0, .int x0, .int 2]) ++ List.replicate (4 - (lg_sl ([.ref h0, .int x0, .int 2])).length) Slot.unset).toArray = ls at hl ⊢
  have hl : lv_has ls 4 [(0, .ref h0), (1, .int x0), (2, .int 2)] := hl
  refine lv_iload_n hx hb dX9_word_0 rfl (lv_at hl 1 rfl) ?_
  refine lv_if_lt (tgt := 10) hx hb dX9_word_1 (by decide) (fun c1 => ?_) (fun c1 => absurd (Int32.lt_iff_toInt_lt.mpr (show x0.toInt < (0 : Int) by omega)) c1)
  exact vx_throwS hx hb hlt (text := "letter is 0 to 25") (sa := (g 10)) (names := ["java/lang/RuntimeException", "java/lang/Exception"]) hown (by decide) (by decide) (hts (.classLink RX9 100 "java/lang/IllegalArgumentException") (by decide +kernel)) (hts (.initialized "java/lang/IllegalArgumentException") (by decide +kernel)) (ns_f20 hF) (vx_hat (B := [.declares ⟨"java/lang/RuntimeException", "<init>", "(Ljava/lang/String;)V"⟩, .declares ⟨"java/lang/Exception", "<init>", "(Ljava/lang/String;)V"⟩, .declares ⟨"java/lang/Throwable", "<init>", "(Ljava/lang/String;)V"⟩, .castable "java/lang/IllegalArgumentException" "java/lang/IllegalArgumentException"]) (fun w9 h9 => hts w9 (List.mem_cons_of_mem _ ((fun h9 => List.mem_append_left _ (List.mem_append_left _ (List.mem_append_right _ h9))) h9))) (by decide +kernel) (vx_c (va_Nw.use rfl (ns_f12 hF)) (vx_c (va_Nw.use rfl (ns_f13 hF)) (vx_c (va_Nw.use rfl (ns_f14 hF)) (vx_c (va_Nw.use rfl (ns_f11 hF)) vx_n))))) (by decide +kernel) (ns_f17 hF) (ns_f18 hF) hS (by rw [hml]; exact hl.1) dX9_word_10 dX9_word_13 dX9_word_14 dX9_word_16 dX9_word_19 (fun x hx => (hnox x hx).elim) (Nat.le_of_ble_eq_true rfl) (Nat.le_of_ble_eq_true rfl) (Nat.le_of_ble_eq_true rfl) (Nat.le_of_ble_eq_true rfl) hlocks (fun t9 hal hsz9 hk9 => ⟨(), trivial, rfl, Nat.le_trans hS.1 hsz9, fun q hq1 hq2 => (hk9 q (Nat.lt_of_lt_of_le hq1 hS.1)).trans (hS.2.1 q hq1 hq2)⟩) hS.2.2 (Nat.le_of_ble_eq_true rfl) (Nat.le_of_ble_eq_true rfl)
set_option maxHeartbeats 4000000 in
set_option maxRecDepth 100000 in
theorem kL_word_3 (l : Launch) (dC : Nat → ClassId) (dI : Nat → Nat → Nat) (g : Nat → Nat) (sz : Nat) (h0 : Nat) (x0 : Int32) (h1 : Nat) (v0 : Value) (v1 : Value) (v2 : Value) (v3 : Value) (v4 : Value) (v5 : Value) (v6 : Value) (v7 : Value) (v8 : Value) (v9 : Value) (v10 : Value) (v11 : Value) (v12 : Value) (v13 : Value) (v14 : Value) (v15 : Value) (ex0 : (-2147483648 : Int) ≤ x0.toInt ∧ x0.toInt ≤ (-1 : Int)) (hlt : l.stackTraces = false) : Met l yL_word wsL_word ({ frames := 7, cells := 1, slots := 6, locals := 105 }) (va_Pc [.ref h0, .int x0, .int 2, .ref h1] (fun U => U.heap.size = sz ∧ va_P (dC, dI) vwCl [(h0, .inr (16, [v0, v1, v2, v3, v4, v5, v6, v7, v8, v9, v10, v11, v12, v13, v14, v15]))] U.heap ∧ va_K (dC, dI) vwCl [] U ∧ va_D (fun _ => True) [(h0, .inr (16, [v0, v1, v2, v3, v4, v5, v6, v7, v8, v9, v10, v11, v12, v13, v14, v15]))] ∧ ns_F g (va_A [(h0, .inr (16, [v0, v1, v2, v3, v4, v5, v6, v7, v8, v9, v10, v11, v12, v13, v14, v15]))] sz) U U.heap)) (va_Qi (fun (r : Int32) (_ : Unit) => r = 1) (fun _ t => va_P (dC, dI) vwCl [(h0, .inr (16, [v0, v1, v2, v3, v4, v5, v6, v7, v8, v9, v10, v11, v12, v13, v14, v15]))] t.heap ∧ va_K (dC, dI) vwCl [] t ∧ va_D (va_A [(h0, .inr (16, [v0, v1, v2, v3, v4, v5, v6, v7, v8, v9, v10, v11, v12, v13, v14, v15]))] sz) [(h0, .inr (16, [v0, v1, v2, v3, v4, v5, v6, v7, v8, v9, v10, v11, v12, v13, v14, v15]))]) (va_A [(h0, .inr (16, [v0, v1, v2, v3, v4, v5, v6, v7, v8, v9, v10, v11, v12, v13, v14, v15]))] sz)) 1 6 (va_A [(h0, .inr (16, [v0, v1, v2, v3, v4, v5, v6, v7, v8, v9, v10, v11, v12, v13, v14, v15]))] sz) := by
  refine va_MetW (cc := cL_word) (maxL := 5) (ret := (some .int)) (hh := [(0, 11, 14, 19), (0, 11, 18, 21)]) (by decide) rfl ?_
  intro p e s m args below meth c s₁ B hml hv
  obtain ⟨rfl, hsz, hP, hK, hD0, hF⟩ := hv
  have hx := B.exec
  have hb := B.bytes
  have hr := B.returns
  have hts := atoms_spec (ws := wsL_word) B.pre
  have hown : s.vm.findClass RL = some m.cls := findClass_of_methodNamed B.named
  have hlocks := B.notSynchronized
  have htab : c.exceptionTable.toList = [⟨0, 11, 14, 19⟩, ⟨0, 11, 18, 21⟩] := vx_table B (hts _ List.mem_cons_self)
  subst hsz
  have hD := hD0.self (sz := s.heap.size)
  generalize hAe : va_A [(h0, .inr (16, [v0, v1, v2, v3, v4, v5, v6, v7, v8, v9, v10, v11, v12, v13, v14, v15]))] s.heap.size = A at hD hF ⊢
  have hA : ∀ q : Nat, s.heap.size ≤ q → A q := fun q h => by rw [← hAe]; exact Or.inr h
  have hS : va_S A s.heap s.heap [] := va_S.rf
  have hP : va_P (dC, dI) vwCl [(h0, .inr (16, [v0, v1, v2, v3, v4, v5, v6, v7, v8, v9, v10, v11, v12, v13, v14, v15]))] s.heap := hP
  have hl := lv_entry ([.ref h0, .int x0, .int 2, .ref h1]) (n := 5) (Nat.le_of_ble_eq_true rfl)
  rw [lg_entry_eq]
  generalize (lg_sl ([.ref h0, .int x0, .int 2, .ref h1]) ++ List.replicate (5 - (lg_sl ([.ref h0, .int x0, .int 2, .ref h1])).length) Slot.unset).toArray = ls at hl ⊢
  have hl : lv_has ls 5 [(0, .ref h0), (1, .int x0), (2, .int 2), (3, .ref h1)] := hl
  refine lv_aload_n hx hb dL_word_0 rfl (lv_at hl 3 rfl) ?_
  refine lv_aload_n hx hb dL_word_1 rfl (lv_at hl 0 rfl) ?_
  refine lv_iload_n hx hb dL_word_2 rfl (lv_at hl 1 rfl) ?_
  refine lv_iload_n hx hb dL_word_3 rfl (lv_at hl 2 rfl) ?_
  have hPc := hP.sub (ws' := []) [] rfl
  have hDc := hD.sub (ws' := []) [] (by decide) rfl
  have hKc := hK.sub (tys' := []) [] rfl
  have hFc := va_free (wc := []) hD hS hA [] rfl
  refine vx_callv (vx_runV (As := [.int x0, .int 2]) (rest := [.ref h1]) ⟨hx, hb, hml, hown, hts⟩ (kX9_word_3 l dC dI g s.heap.size h0 x0 ⟨by omega, by omega⟩ hlt) (cwV 2 hts gL_word_X9_word rfl rfl rfl (by decide +kernel) ⟨Nat.le_of_ble_eq_true rfl, Nat.le_of_ble_eq_true rfl⟩) ⟨fun a U gg mk q => by obtain ⟨q0, q1, qP, qK, qD, qF⟩ := q; exact ⟨q0, q1, qP, va_K.moved (u := U) (U := U.calling gg mk a) (Vm.Alike.refl U.vm) qK, qD, ns_same qF⟩, va_recv hK hP (ci := 16) (q0 := 0) rfl rfl, fun U hU hW => ⟨rfl, by rw [hU], by rw [hU]; exact hPc, va_K.moved hW.alike hKc, hDc.weaken (fun _ _ _ _ => trivial), ns_call hF hS hFc hU hW⟩⟩ rfl rfl hl.1 rfl (lv_room (Nat.le_of_ble_eq_true rfl)) dL_word_4 ⟨Nat.le_of_ble_eq_true rfl, Nat.le_of_ble_eq_true rfl⟩) hS (fun q _ h => hFc q h) hFc (fun q _ h => hFc q h) (fun E ce q9 u t H1 locs ht hvm hw hB hz1 hk1 hS hc1 hc2 hc3 => ?_) (fun _ _ _ _ _ _ hw _ _ _ _ => False.elim hw)
  obtain rfl : E = "java/lang/IllegalArgumentException" := hB
  obtain ⟨hP, hD⟩ := va_join (wr := [(h0, .inr (16, [v0, v1, v2, v3, v4, v5, v6, v7, v8, v9, v10, v11, v12, v13, v14, v15]))]) (w1 := []) hP hD [] [0] rfl rfl (by decide) (by decide) hk1 hFc (fun k q h => by simp at h) ⟨fun i j p q h => by simp at h, fun k q h => by simp at h⟩
  have hK := hK.sub (tys' := []) [] rfl
  generalize H1 = H at hP hS hc1 ⊢
  have hP : va_P (dC, dI) vwCl [(h0, .inr (16, [v0, v1, v2, v3, v4, v5, v6, v7, v8, v9, v10, v11, v12, v13, v14, v15]))] H := hP
  have hD : va_D A [(h0, .inr (16, [v0, v1, v2, v3, v4, v5, v6, v7, v8, v9, v10, v11, v12, v13, v14, v15]))] := hD
  have hK : va_K (dC, dI) vwCl [] s := hK
  refine vx_widen (k := 1) (n := 6) (Nat.le_of_ble_eq_true rfl) (Nat.le_of_ble_eq_true rfl) ?_
  refine vx_catch hown [] ⟨0, 11, 14, 19⟩ [⟨0, 11, 18, 21⟩] htab (fun z hz => by simp at hz) (by decide) (by decide) (hts (.classLink RL 19 "java/lang/IllegalArgumentException") (by decide +kernel)) (va_Nw.use rfl (ns_f11 hF)) hc1 hc2 hc3 ?_
  refine W.eq (g2 := F0 m 14 ls [.ref q9]) rfl ?_
  refine lv_astore (lv' := [(4, .ref q9), (0, .ref h0), (1, .int x0), (2, .int 2), (3, .ref h1)]) hx hb dL_word_14 hl (by decide) rfl (fun ls hl => ?_)
  refine lv_iconst (v := 1) hx hb dL_word_16 (by decide) ?_
  have hP9 := hP.sub (ws' := [(h0, .inr (16, [v0, v1, v2, v3, v4, v5, v6, v7, v8, v9, v10, v11, v12, v13, v14, v15]))]) [0] rfl
  have hD9 := hD.sub (ws' := [(h0, .inr (16, [v0, v1, v2, v3, v4, v5, v6, v7, v8, v9, v10, v11, v12, v13, v14, v15]))]) [0] (by decide) rfl
  have hK9 := hK.sub (tys' := []) [] rfl
  refine W.widen (k := 1) (n := 6) (Nat.le_of_ble_eq_true rfl) (Nat.le_of_ble_eq_true rfl) ?_
  exact W.iret (v := 1) hx hb hr (fun t ht hW => ⟨⟨_, (), rfl, rfl, by rw [ht]; exact hP9, va_K.moved hW.alike hK9, hD9⟩, hS.F ht⟩) hS.2.2 dL_word_17
set_option maxHeartbeats 4000000 in
set_option maxRecDepth 100000 in
theorem kX16_word_3 (l : Launch) (dC : Nat → ClassId) (dI : Nat → Nat → Nat) (g : Nat → Nat) (sz : Nat) (h0 : Nat) (x0 : Int32) (v0 : Value) (v1 : Value) (v2 : Value) (v3 : Value) (v4 : Value) (v5 : Value) (v6 : Value) (v7 : Value) (v8 : Value) (ex0 : (-2147483648 : Int) ≤ x0.toInt ∧ x0.toInt ≤ (-1 : Int)) : Met l yX16_word wsX16_word ({ frames := 2, cells := 0, slots := 0, locals := 44 }) (va_Pc [.ref h0, .int x0, .int 2] (fun U => U.heap.size = sz ∧ va_P (dC, dI) vwCl [(h0, .inr (23, [v0, v1, v2, v3, v4, v5, v6, v7, v8]))] U.heap ∧ va_K (dC, dI) vwCl [] U ∧ va_D (fun _ => True) [(h0, .inr (23, [v0, v1, v2, v3, v4, v5, v6, v7, v8]))] ∧ ns_F g (va_A [(h0, .inr (23, [v0, v1, v2, v3, v4, v5, v6, v7, v8]))] sz) U U.heap)) (va_Qi (fun (r : Int32) (_ : Unit) => r = 0) (fun _ t => va_P (dC, dI) vwCl [(h0, .inr (23, [.int 1, v1, v2, v3, v4, v5, v6, v7, v8]))] t.heap ∧ va_K (dC, dI) vwCl [] t ∧ va_D (va_A [(h0, .inr (23, [v0, v1, v2, v3, v4, v5, v6, v7, v8]))] sz) [(h0, .inr (23, [.int 1, v1, v2, v3, v4, v5, v6, v7, v8]))]) (va_A [(h0, .inr (23, [v0, v1, v2, v3, v4, v5, v6, v7, v8]))] sz)) 0 0 (va_A [(h0, .inr (23, [v0, v1, v2, v3, v4, v5, v6, v7, v8]))] sz) := by
  refine Met.ofW (cc := cX16_word) (maxL := 5) (ret := (some .int)) (by decide) rfl ?_
  intro p e s m args below meth c s₁ B hml hv
  obtain ⟨rfl, hsz, hP, hK, hD0, hF⟩ := hv
  have hx := B.exec
  have hb := B.bytes
  have hr := B.returns
  have hts := atoms_spec (ws := wsX16_word) B.pre
  have hown : s.vm.findClass RX16 = some m.cls := findClass_of_methodNamed B.named
  have hlocks := B.notSynchronized
  subst hsz
  have hD := hD0.self (sz := s.heap.size)
  generalize hAe : va_A [(h0, .inr (23, [v0, v1, v2, v3, v4, v5, v6, v7, v8]))] s.heap.size = A at hD hF ⊢
  have hA : ∀ q : Nat, s.heap.size ≤ q → A q := fun q h => by rw [← hAe]; exact Or.inr h
  have hS : va_S A s.heap s.heap [] := va_S.rf
  have hP : va_P (dC, dI) vwCl [(h0, .inr (23, [v0, v1, v2, v3, v4, v5, v6, v7, v8]))] s.heap := hP
  have hl := lv_entry ([.ref h0, .int x0, .int 2]) (n := 5) (Nat.le_of_ble_eq_true rfl)
  rw [lg_entry_eq]
  generalize (lg_sl ([.ref h0, .int x0, .int 2]) ++ List.replicate (5 - (lg_sl ([.ref h0, .int x0, .int 2])).length) Slot.unset).toArray = ls at hl ⊢
  have hl : lv_has ls 5 [(0, .ref h0), (1, .int x0), (2, .int 2)] := hl
  refine lv_aload_n hx hb dX16_word_0 rfl (lv_at hl 0 rfl) ?_
  refine lv_iload_n hx hb dX16_word_1 rfl (lv_at hl 1 rfl) ?_
  refine lv_iconst (v := 0) hx hb dX16_word_2 (by decide) ?_
  refine lv_bipush (v := 25) hx hb dX16_word_3 (by decide) ?_
  have hPc := hP.sub (ws' := []) [] rfl
  have hDc := hD.sub (ws' := []) [] (by decide) rfl
  have hKc := hK.sub (tys' := []) [] rfl
  have hFc := va_free (wc := []) hD hS hA [] rfl
  refine va_calli (va_runS (As := [.int x0, .int 0, .int 25]) (rest := [.ref h0]) ⟨hx, hb, hml, hown, hts⟩ (kX16_isIn l dC dI g s.heap.size x0 ⟨by omega, by omega⟩) (va_cwS 3 hts gX16_word_X16_isIn rfl rfl rfl (by decide +kernel) ⟨Nat.le_of_ble_eq_true rfl, Nat.le_of_ble_eq_true rfl⟩) ⟨fun a U gg mk q => by obtain ⟨q0, q1, qP, qK, qD, qF⟩ := q; exact ⟨q0, q1, qP, va_K.moved (u := U) (U := U.calling gg mk a) (Vm.Alike.refl U.vm) qK, qD, ns_same qF⟩, fun U hU hW => ⟨rfl, by rw [hU], by rw [hU]; exact hPc, va_K.moved hW.alike hKc, hDc.weaken (fun _ _ _ _ => trivial), ns_call hF hS hFc hU hW⟩⟩ rfl rfl hl.1 rfl (lv_room (Nat.le_of_ble_eq_true rfl)) dX16_word_5 ⟨Nat.le_of_ble_eq_true rfl, Nat.le_of_ble_eq_true rfl⟩) hS (fun q _ h => hFc q h) hFc (fun r9 u t H1 locs ht hvm hw hB hz1 hk1 hS => ?_)
  obtain rfl := hw
  obtain ⟨hP1, hK1, hD1⟩ := hB
  rw [ht] at hP1
  have hK1 := va_K.moved hvm.symm hK1
  obtain ⟨hP, hD⟩ := va_join (wr := [(h0, .inr (23, [v0, v1, v2, v3, v4, v5, v6, v7, v8]))]) (w1 := []) hP hD [] [0] rfl rfl (by decide) (by decide) hk1 hFc hP1 hD1
  have hK := (hK.sub (tys' := []) [] rfl).app hK1
  generalize H1 = H at hP hS ⊢
  have hP : va_P (dC, dI) vwCl [(h0, .inr (23, [v0, v1, v2, v3, v4, v5, v6, v7, v8]))] H := hP
  have hD : va_D A [(h0, .inr (23, [v0, v1, v2, v3, v4, v5, v6, v7, v8]))] := hD
  have hK : va_K (dC, dI) vwCl [] s := hK
  refine W.widen (k := 0) (n := 0) (Nat.le_of_ble_eq_true rfl) (Nat.le_of_ble_eq_true rfl) ?_
  refine lv_if_eq (tgt := 21) hx hb dX16_word_8 (by decide) (fun c1 => ?_) (fun c1 => absurd (by decide) c1)
  refine lv_iconst (v := 1) hx hb dX16_word_21 (by decide) ?_
  refine lv_goto (tgt := 26) hx hb dX16_word_22 (by decide) ?_
  refine lv_iconst (v := 1) hx hb dX16_word_26 (by decide) ?_
  have hPc := hP.sub (ws' := [(h0, .inr (23, [v0, v1, v2, v3, v4, v5, v6, v7, v8]))]) [0] rfl
  have hDc := hD.sub (ws' := [(h0, .inr (23, [v0, v1, v2, v3, v4, v5, v6, v7, v8]))]) [0] (by decide) rfl
  have hKc := hK.sub (tys' := []) [] rfl
  have hFc := va_free (wc := [(h0, .inr (23, [v0, v1, v2, v3, v4, v5, v6, v7, v8]))]) hD hS hA [0] rfl
  refine va_calli (va_runV (As := [.int 1, .int 1]) (rest := []) ⟨hx, hb, hml, hown, hts⟩ (kX16_start l dC dI g H.size h0 v0 v1 v2 v3 v4 v5 v6 v7 v8 ) (cwV 2 hts gX16_word_X16_start rfl rfl rfl (by decide +kernel) ⟨Nat.le_of_ble_eq_true rfl, Nat.le_of_ble_eq_true rfl⟩) ⟨fun a U gg mk q => by obtain ⟨q0, q1, qP, qK, qD, qF⟩ := q; exact ⟨q0, q1, qP, va_K.moved (u := U) (U := U.calling gg mk a) (Vm.Alike.refl U.vm) qK, qD, ns_same qF⟩, va_recv hK hP (ci := 23) (q0 := 0) rfl rfl, fun U hU hW => ⟨rfl, by rw [hU], by rw [hU]; exact hPc, va_K.moved hW.alike hKc, hDc.weaken (fun _ _ _ _ => trivial), ns_call hF hS hFc hU hW⟩⟩ rfl rfl hl.1 rfl (lv_room (Nat.le_of_ble_eq_true rfl)) dX16_word_27 ⟨Nat.le_of_ble_eq_true rfl, Nat.le_of_ble_eq_true rfl⟩) hS (fun q _ h => hFc q h) hFc (fun r9 u t H1 locs ht hvm hw hB hz1 hk1 hS => ?_)
  obtain rfl := hw
  obtain ⟨hP1, hK1, hD1⟩ := hB
  rw [ht] at hP1
  have hK1 := va_K.moved hvm.symm hK1
  obtain ⟨hP, hD⟩ := va_join (wr := []) (w1 := [(h0, .inr (23, [.int 1, v1, v2, v3, v4, v5, v6, v7, v8]))]) hP hD [0] [] rfl rfl (by decide) (by decide) hk1 hFc hP1 hD1
  have hK := (hK.sub (tys' := []) [] rfl).app hK1
  generalize H1 = H at hP hS ⊢
  have hP : va_P (dC, dI) vwCl [(h0, .inr (23, [.int 1, v1, v2, v3, v4, v5, v6, v7, v8]))] H := hP
  have hD : va_D A [(h0, .inr (23, [.int 1, v1, v2, v3, v4, v5, v6, v7, v8]))] := hD
  have hK : va_K (dC, dI) vwCl [] s := hK
  refine W.widen (k := 0) (n := 0) (Nat.le_of_ble_eq_true rfl) (Nat.le_of_ble_eq_true rfl) ?_
  refine lv_if_ne (tgt := 45) hx hb dX16_word_30 (by decide) (fun c2 => ?_) (fun c2 => absurd c2 (by decide))
  refine lv_iconst (v := 0) hx hb dX16_word_45 (by decide) ?_
  have hP9 := hP.sub (ws' := [(h0, .inr (23, [.int 1, v1, v2, v3, v4, v5, v6, v7, v8]))]) [0] rfl
  have hD9 := hD.sub (ws' := [(h0, .inr (23, [.int 1, v1, v2, v3, v4, v5, v6, v7, v8]))]) [0] (by decide) rfl
  have hK9 := hK.sub (tys' := []) [] rfl
  refine W.widen (k := 0) (n := 0) (Nat.le_of_ble_eq_true rfl) (Nat.le_of_ble_eq_true rfl) ?_
  exact W.iret (v := 0) hx hb hr (fun t ht hW => ⟨⟨_, (), rfl, rfl, by rw [ht]; exact hP9, va_K.moved hW.alike hK9, hD9⟩, hS.F ht⟩) hS.2.2 dX16_word_46
set_option maxHeartbeats 4000000 in
set_option maxRecDepth 100000 in
theorem kX9_word_4 (l : Launch) (dC : Nat → ClassId) (dI : Nat → Nat → Nat) (g : Nat → Nat) (sz : Nat) (h0 : Nat) (x0 : Int32) (ex0 : (-2147483648 : Int) ≤ x0.toInt ∧ x0.toInt ≤ (-1 : Int)) (hlt : l.stackTraces = false) : vx_Met l yX9_word wsX9_word ({ frames := 6, cells := 1, slots := 6, locals := 82 }) (va_Pc [.ref h0, .int x0, .int 3] (fun U => U.heap.size = sz ∧ va_P (dC, dI) vwCl [] U.heap ∧ va_K (dC, dI) vwCl [] U ∧ va_D (fun _ => True) [] ∧ ns_F g (va_A [] sz) U U.heap)) (va_Qv (fun _ : Unit => False) (fun _ _ => True) (va_A [] sz)) (vx_X (fun _ : Unit => True) (fun E _ _ => E = "java/lang/IllegalArgumentException") (va_A [] sz)) 1 6 (va_A [] sz) := by
  refine vx_ofW (cc := cX9_word) (maxL := 4) (ret := (some .int)) (by decide) rfl ?_
  intro p e s m args below meth c s₁ B hml hnox hv
  obtain ⟨rfl, hsz, hP, hK, hD0, hF⟩ := hv
  have hx := B.exec
  have hb := B.bytes
  have hr := B.returns
  have hts := atoms_spec (ws := wsX9_word) B.pre
  have hown : s.vm.findClass RX9 = some m.cls := findClass_of_methodNamed B.named
  have hlocks := B.notSynchronized
  subst hsz
  have hD := hD0.self (sz := s.heap.size)
  generalize hAe : va_A [] s.heap.size = A at hD hF ⊢
  have hA : ∀ q : Nat, s.heap.size ≤ q → A q := fun q h => by rw [← hAe]; exact Or.inr h
  have hS : va_S A s.heap s.heap [] := va_S.rf
  have hP : va_P (dC, dI) vwCl [] s.heap := hP
  have hl := lv_entry ([.ref h0, .int x0, .int 3]) (n := 4) (Nat.le_of_ble_eq_true rfl)
  rw [lg_entry_eq]
  generalize (lg_sl ([.ref h0, .int x0, .int 3]) ++ List.replicate (4 - (lg_sl ([.ref h0, .int x0, .int 3])).length) Slot.unset).toArray = ls at hl ⊢
  have hl : lv_has ls 4 [(0, .ref h0), (1, .int x0), (2, .int 3)] := hl
  refine lv_iload_n hx hb dX9_word_0 rfl (lv_at hl 1 rfl) ?_
  refine lv_if_lt (tgt := 10) hx hb dX9_word_1 (by decide) (fun c1 => ?_) (fun c1 => absurd (Int32.lt_iff_toInt_lt.mpr (show x0.toInt < (0 : Int) by omega)) c1)
  exact vx_throwS hx hb hlt (text := "letter is 0 to 25") (sa := (g 10)) (names := ["java/lang/RuntimeException", "java/lang/Exception"]) hown (by decide) (by decide) (hts (.classLink RX9 100 "java/lang/IllegalArgumentException") (by decide +kernel)) (hts (.initialized "java/lang/IllegalArgumentException") (by decide +kernel)) (ns_f20 hF) (vx_hat (B := [.declares ⟨"java/lang/RuntimeException", "<init>", "(Ljava/lang/String;)V"⟩, .declares ⟨"java/lang/Exception", "<init>", "(Ljava/lang/String;)V"⟩, .declares ⟨"java/lang/Throwable", "<init>", "(Ljava/lang/String;)V"⟩, .castable "java/lang/IllegalArgumentException" "java/lang/IllegalArgumentException"]) (fun w9 h9 => hts w9 (List.mem_cons_of_mem _ ((fun h9 => List.mem_append_left _ (List.mem_append_left _ (List.mem_append_right _ h9))) h9))) (by decide +kernel) (vx_c (va_Nw.use rfl (ns_f12 hF)) (vx_c (va_Nw.use rfl (ns_f13 hF)) (vx_c (va_Nw.use rfl (ns_f14 hF)) (vx_c (va_Nw.use rfl (ns_f11 hF)) vx_n))))) (by decide +kernel) (ns_f17 hF) (ns_f18 hF) hS (by rw [hml]; exact hl.1) dX9_word_10 dX9_word_13 dX9_word_14 dX9_word_16 dX9_word_19 (fun x hx => (hnox x hx).elim) (Nat.le_of_ble_eq_true rfl) (Nat.le_of_ble_eq_true rfl) (Nat.le_of_ble_eq_true rfl) (Nat.le_of_ble_eq_true rfl) hlocks (fun t9 hal hsz9 hk9 => ⟨(), trivial, rfl, Nat.le_trans hS.1 hsz9, fun q hq1 hq2 => (hk9 q (Nat.lt_of_lt_of_le hq1 hS.1)).trans (hS.2.1 q hq1 hq2)⟩) hS.2.2 (Nat.le_of_ble_eq_true rfl) (Nat.le_of_ble_eq_true rfl)
set_option maxHeartbeats 4000000 in
set_option maxRecDepth 100000 in
theorem kL_word_4 (l : Launch) (dC : Nat → ClassId) (dI : Nat → Nat → Nat) (g : Nat → Nat) (sz : Nat) (h0 : Nat) (x0 : Int32) (h1 : Nat) (v0 : Value) (v1 : Value) (v2 : Value) (v3 : Value) (v4 : Value) (v5 : Value) (v6 : Value) (v7 : Value) (v8 : Value) (v9 : Value) (v10 : Value) (v11 : Value) (v12 : Value) (v13 : Value) (v14 : Value) (v15 : Value) (ex0 : (-2147483648 : Int) ≤ x0.toInt ∧ x0.toInt ≤ (-1 : Int)) (hlt : l.stackTraces = false) : Met l yL_word wsL_word ({ frames := 7, cells := 1, slots := 6, locals := 105 }) (va_Pc [.ref h0, .int x0, .int 3, .ref h1] (fun U => U.heap.size = sz ∧ va_P (dC, dI) vwCl [(h0, .inr (16, [v0, v1, v2, v3, v4, v5, v6, v7, v8, v9, v10, v11, v12, v13, v14, v15]))] U.heap ∧ va_K (dC, dI) vwCl [] U ∧ va_D (fun _ => True) [(h0, .inr (16, [v0, v1, v2, v3, v4, v5, v6, v7, v8, v9, v10, v11, v12, v13, v14, v15]))] ∧ ns_F g (va_A [(h0, .inr (16, [v0, v1, v2, v3, v4, v5, v6, v7, v8, v9, v10, v11, v12, v13, v14, v15]))] sz) U U.heap)) (va_Qi (fun (r : Int32) (_ : Unit) => r = 1) (fun _ t => va_P (dC, dI) vwCl [(h0, .inr (16, [v0, v1, v2, v3, v4, v5, v6, v7, v8, v9, v10, v11, v12, v13, v14, v15]))] t.heap ∧ va_K (dC, dI) vwCl [] t ∧ va_D (va_A [(h0, .inr (16, [v0, v1, v2, v3, v4, v5, v6, v7, v8, v9, v10, v11, v12, v13, v14, v15]))] sz) [(h0, .inr (16, [v0, v1, v2, v3, v4, v5, v6, v7, v8, v9, v10, v11, v12, v13, v14, v15]))]) (va_A [(h0, .inr (16, [v0, v1, v2, v3, v4, v5, v6, v7, v8, v9, v10, v11, v12, v13, v14, v15]))] sz)) 1 6 (va_A [(h0, .inr (16, [v0, v1, v2, v3, v4, v5, v6, v7, v8, v9, v10, v11, v12, v13, v14, v15]))] sz) := by
  refine va_MetW (cc := cL_word) (maxL := 5) (ret := (some .int)) (hh := [(0, 11, 14, 19), (0, 11, 18, 21)]) (by decide) rfl ?_
  intro p e s m args below meth c s₁ B hml hv
  obtain ⟨rfl, hsz, hP, hK, hD0, hF⟩ := hv
  have hx := B.exec
  have hb := B.bytes
  have hr := B.returns
  have hts := atoms_spec (ws := wsL_word) B.pre
  have hown : s.vm.findClass RL = some m.cls := findClass_of_methodNamed B.named
  have hlocks := B.notSynchronized
  have htab : c.exceptionTable.toList = [⟨0, 11, 14, 19⟩, ⟨0, 11, 18, 21⟩] := vx_table B (hts _ List.mem_cons_self)
  subst hsz
  have hD := hD0.self (sz := s.heap.size)
  generalize hAe : va_A [(h0, .inr (16, [v0, v1, v2, v3, v4, v5, v6, v7, v8, v9, v10, v11, v12, v13, v14, v15]))] s.heap.size = A at hD hF ⊢
  have hA : ∀ q : Nat, s.heap.size ≤ q → A q := fun q h => by rw [← hAe]; exact Or.inr h
  have hS : va_S A s.heap s.heap [] := va_S.rf
  have hP : va_P (dC, dI) vwCl [(h0, .inr (16, [v0, v1, v2, v3, v4, v5, v6, v7, v8, v9, v10, v11, v12, v13, v14, v15]))] s.heap := hP
  have hl := lv_entry ([.ref h0, .int x0, .int 3, .ref h1]) (n := 5) (Nat.le_of_ble_eq_true rfl)
  rw [lg_entry_eq]
  generalize (lg_sl ([.ref h0, .int x0, .int 3, .ref h1]) ++ List.replicate (5 - (lg_sl ([.ref h0, .int x0, .int 3, .ref h1])).length) Slot.unset).toArray = ls at hl ⊢
  have hl : lv_has ls 5 [(0, .ref h0), (1, .int x0), (2, .int 3), (3, .ref h1)] := hl
  refine lv_aload_n hx hb dL_word_0 rfl (lv_at hl 3 rfl) ?_
  refine lv_aload_n hx hb dL_word_1 rfl (lv_at hl 0 rfl) ?_
  refine lv_iload_n hx hb dL_word_2 rfl (lv_at hl 1 rfl) ?_
  refine lv_iload_n hx hb dL_word_3 rfl (lv_at hl 2 rfl) ?_
  have hPc := hP.sub (ws' := []) [] rfl
  have hDc := hD.sub (ws' := []) [] (by decide) rfl
  have hKc := hK.sub (tys' := []) [] rfl
  have hFc := va_free (wc := []) hD hS hA [] rfl
  refine vx_callv (vx_runV (As := [.int x0, .int 3]) (rest := [.ref h1]) ⟨hx, hb, hml, hown, hts⟩ (kX9_word_4 l dC dI g s.heap.size h0 x0 ⟨by omega, by omega⟩ hlt) (cwV 2 hts gL_word_X9_word rfl rfl rfl (by decide +kernel) ⟨Nat.le_of_ble_eq_true rfl, Nat.le_of_ble_eq_true rfl⟩) ⟨fun a U gg mk q => by obtain ⟨q0, q1, qP, qK, qD, qF⟩ := q; exact ⟨q0, q1, qP, va_K.moved (u := U) (U := U.calling gg mk a) (Vm.Alike.refl U.vm) qK, qD, ns_same qF⟩, va_recv hK hP (ci := 16) (q0 := 0) rfl rfl, fun U hU hW => ⟨rfl, by rw [hU], by rw [hU]; exact hPc, va_K.moved hW.alike hKc, hDc.weaken (fun _ _ _ _ => trivial), ns_call hF hS hFc hU hW⟩⟩ rfl rfl hl.1 rfl (lv_room (Nat.le_of_ble_eq_true rfl)) dL_word_4 ⟨Nat.le_of_ble_eq_true rfl, Nat.le_of_ble_eq_true rfl⟩) hS (fun q _ h => hFc q h) hFc (fun q _ h => hFc q h) (fun E ce q9 u t H1 locs ht hvm hw hB hz1 hk1 hS hc1 hc2 hc3 => ?_) (fun _ _ _ _ _ _ hw _ _ _ _ => False.elim hw)
  obtain rfl : E = "java/lang/IllegalArgumentException" := hB
  obtain ⟨hP, hD⟩ := va_join (wr := [(h0, .inr (16, [v0, v1, v2, v3, v4, v5, v6, v7, v8, v9, v10, v11, v12, v13, v14, v15]))]) (w1 := []) hP hD [] [0] rfl rfl (by decide) (by decide) hk1 hFc (fun k q h => by simp at h) ⟨fun i j p q h => by simp at h, fun k q h => by simp at h⟩
  have hK := hK.sub (tys' := []) [] rfl
  generalize H1 = H at hP hS hc1 ⊢
  have hP : va_P (dC, dI) vwCl [(h0, .inr (16, [v0, v1, v2, v3, v4, v5, v6, v7, v8, v9, v10, v11, v12, v13, v14, v15]))] H := hP
  have hD : va_D A [(h0, .inr (16, [v0, v1, v2, v3, v4, v5, v6, v7, v8, v9, v10, v11, v12, v13, v14, v15]))] := hD
  have hK : va_K (dC, dI) vwCl [] s := hK
  refine vx_widen (k := 1) (n := 6) (Nat.le_of_ble_eq_true rfl) (Nat.le_of_ble_eq_true rfl) ?_
  refine vx_catch hown [] ⟨0, 11, 14, 19⟩ [⟨0, 11, 18, 21⟩] htab (fun z hz => by simp at hz) (by decide) (by decide) (hts (.classLink RL 19 "java/lang/IllegalArgumentException") (by decide +kernel)) (va_Nw.use rfl (ns_f11 hF)) hc1 hc2 hc3 ?_
  refine W.eq (g2 := F0 m 14 ls [.ref q9]) rfl ?_
  refine lv_astore (lv' := [(4, .ref q9), (0, .ref h0), (1, .int x0), (2, .int 3), (3, .ref h1)]) hx hb dL_word_14 hl (by decide) rfl (fun ls hl => ?_)
  refine lv_iconst (v := 1) hx hb dL_word_16 (by decide) ?_
  have hP9 := hP.sub (ws' := [(h0, .inr (16, [v0, v1, v2, v3, v4, v5, v6, v7, v8, v9, v10, v11, v12, v13, v14, v15]))]) [0] rfl
  have hD9 := hD.sub (ws' := [(h0, .inr (16, [v0, v1, v2, v3, v4, v5, v6, v7, v8, v9, v10, v11, v12, v13, v14, v15]))]) [0] (by decide) rfl
  have hK9 := hK.sub (tys' := []) [] rfl
  refine W.widen (k := 1) (n := 6) (Nat.le_of_ble_eq_true rfl) (Nat.le_of_ble_eq_true rfl) ?_
  exact W.iret (v := 1) hx hb hr (fun t ht hW => ⟨⟨_, (), rfl, rfl, by rw [ht]; exact hP9, va_K.moved hW.alike hK9, hD9⟩, hS.F ht⟩) hS.2.2 dL_word_17
set_option maxHeartbeats 4000000 in
set_option maxRecDepth 100000 in
theorem kX16_word_4 (l : Launch) (dC : Nat → ClassId) (dI : Nat → Nat → Nat) (g : Nat → Nat) (sz : Nat) (h0 : Nat) (x0 : Int32) (v0 : Value) (v1 : Value) (v2 : Value) (v3 : Value) (v4 : Value) (v5 : Value) (v6 : Value) (v7 : Value) (v8 : Value) (ex0 : (-2147483648 : Int) ≤ x0.toInt ∧ x0.toInt ≤ (-1 : Int)) : Met l yX16_word wsX16_word ({ frames := 2, cells := 0, slots := 0, locals := 44 }) (va_Pc [.ref h0, .int x0, .int 3] (fun U => U.heap.size = sz ∧ va_P (dC, dI) vwCl [(h0, .inr (23, [v0, v1, v2, v3, v4, v5, v6, v7, v8]))] U.heap ∧ va_K (dC, dI) vwCl [] U ∧ va_D (fun _ => True) [(h0, .inr (23, [v0, v1, v2, v3, v4, v5, v6, v7, v8]))] ∧ ns_F g (va_A [(h0, .inr (23, [v0, v1, v2, v3, v4, v5, v6, v7, v8]))] sz) U U.heap)) (va_Qi (fun (r : Int32) (_ : Unit) => r = 0) (fun _ t => va_P (dC, dI) vwCl [(h0, .inr (23, [.int 1, v1, v2, v3, v4, v5, v6, v7, v8]))] t.heap ∧ va_K (dC, dI) vwCl [] t ∧ va_D (va_A [(h0, .inr (23, [v0, v1, v2, v3, v4, v5, v6, v7, v8]))] sz) [(h0, .inr (23, [.int 1, v1, v2, v3, v4, v5, v6, v7, v8]))]) (va_A [(h0, .inr (23, [v0, v1, v2, v3, v4, v5, v6, v7, v8]))] sz)) 0 0 (va_A [(h0, .inr (23, [v0, v1, v2, v3, v4, v5, v6, v7, v8]))] sz) := by
  refine Met.ofW (cc := cX16_word) (maxL := 5) (ret := (some .int)) (by decide) rfl ?_
  intro p e s m args below meth c s₁ B hml hv
  obtain ⟨rfl, hsz, hP, hK, hD0, hF⟩ := hv
  have hx := B.exec
  have hb := B.bytes
  have hr := B.returns
  have hts := atoms_spec (ws := wsX16_word) B.pre
  have hown : s.vm.findClass RX16 = some m.cls := findClass_of_methodNamed B.named
  have hlocks := B.notSynchronized
  subst hsz
  have hD := hD0.self (sz := s.heap.size)
  generalize hAe : va_A [(h0, .inr (23, [v0, v1, v2, v3, v4, v5, v6, v7, v8]))] s.heap.size = A at hD hF ⊢
  have hA : ∀ q : Nat, s.heap.size ≤ q → A q := fun q h => by rw [← hAe]; exact Or.inr h
  have hS : va_S A s.heap s.heap [] := va_S.rf
  have hP : va_P (dC, dI) vwCl [(h0, .inr (23, [v0, v1, v2, v3, v4, v5, v6, v7, v8]))] s.heap := hP
  have hl := lv_entry ([.ref h0, .int x0, .int 3]) (n := 5) (Nat.le_of_ble_eq_true rfl)
  rw [lg_entry_eq]
  generalize (lg_sl ([.ref h0, .int x0, .int 3]) ++ List.replicate (5 - (lg_sl ([.ref h0, .int x0, .int 3])).length) Slot.unset).toArray = ls at hl ⊢
  have hl : lv_has ls 5 [(0, .ref h0), (1, .int x0), (2, .int 3)] := hl
  refine lv_aload_n hx hb dX16_word_0 rfl (lv_at hl 0 rfl) ?_
  refine lv_iload_n hx hb dX16_word_1 rfl (lv_at hl 1 rfl) ?_
  refine lv_iconst (v := 0) hx hb dX16_word_2 (by decide) ?_
  refine lv_bipush (v := 25) hx hb dX16_word_3 (by decide) ?_
  have hPc := hP.sub (ws' := []) [] rfl
  have hDc := hD.sub (ws' := []) [] (by decide) rfl
  have hKc := hK.sub (tys' := []) [] rfl
  have hFc := va_free (wc := []) hD hS hA [] rfl
  refine va_calli (va_runS (As := [.int x0, .int 0, .int 25]) (rest := [.ref h0]) ⟨hx, hb, hml, hown, hts⟩ (kX16_isIn l dC dI g s.heap.size x0 ⟨by omega, by omega⟩) (va_cwS 3 hts gX16_word_X16_isIn rfl rfl rfl (by decide +kernel) ⟨Nat.le_of_ble_eq_true rfl, Nat.le_of_ble_eq_true rfl⟩) ⟨fun a U gg mk q => by obtain ⟨q0, q1, qP, qK, qD, qF⟩ := q; exact ⟨q0, q1, qP, va_K.moved (u := U) (U := U.calling gg mk a) (Vm.Alike.refl U.vm) qK, qD, ns_same qF⟩, fun U hU hW => ⟨rfl, by rw [hU], by rw [hU]; exact hPc, va_K.moved hW.alike hKc, hDc.weaken (fun _ _ _ _ => trivial), ns_call hF hS hFc hU hW⟩⟩ rfl rfl hl.1 rfl (lv_room (Nat.le_of_ble_eq_true rfl)) dX16_word_5 ⟨Nat.le_of_ble_eq_true rfl, Nat.le_of_ble_eq_true rfl⟩) hS (fun q _ h => hFc q h) hFc (fun r9 u t H1 locs ht hvm hw hB hz1 hk1 hS => ?_)
  obtain rfl := hw
  obtain ⟨hP1, hK1, hD1⟩ := hB
  rw [ht] at hP1
  have hK1 := va_K.moved hvm.symm hK1
  obtain ⟨hP, hD⟩ := va_join (wr := [(h0, .inr (23, [v0, v1, v2, v3, v4, v5, v6, v7, v8]))]) (w1 := []) hP hD [] [0] rfl rfl (by decide) (by decide) hk1 hFc hP1 hD1
  have hK := (hK.sub (tys' := []) [] rfl).app hK1
  generalize H1 = H at hP hS ⊢
  have hP : va_P (dC, dI) vwCl [(h0, .inr (23, [v0, v1, v2, v3, v4, v5, v6, v7, v8]))] H := hP
  have hD : va_D A [(h0, .inr (23, [v0, v1, v2, v3, v4, v5, v6, v7, v8]))] := hD
  have hK : va_K (dC, dI) vwCl [] s := hK
  refine W.widen (k := 0) (n := 0) (Nat.le_of_ble_eq_true rfl) (Nat.le_of_ble_eq_true rfl) ?_
  refine lv_if_eq (tgt := 21) hx hb dX16_word_8 (by decide) (fun c1 => ?_) (fun c1 => absurd (by decide) c1)
  refine lv_iconst (v := 1) hx hb dX16_word_21 (by decide) ?_
  refine lv_goto (tgt := 26) hx hb dX16_word_22 (by decide) ?_
  refine lv_iconst (v := 1) hx hb dX16_word_26 (by decide) ?_
  have hPc := hP.sub (ws' := [(h0, .inr (23, [v0, v1, v2, v3, v4, v5, v6, v7, v8]))]) [0] rfl
  have hDc := hD.sub (ws' := [(h0, .inr (23, [v0, v1, v2, v3, v4, v5, v6, v7, v8]))]) [0] (by decide) rfl
  have hKc := hK.sub (tys' := []) [] rfl
  have hFc := va_free (wc := [(h0, .inr (23, [v0, v1, v2, v3, v4, v5, v6, v7, v8]))]) hD hS hA [0] rfl
  refine va_calli (va_runV (As := [.int 1, .int 1]) (rest := []) ⟨hx, hb, hml, hown, hts⟩ (kX16_start l dC dI g H.size h0 v0 v1 v2 v3 v4 v5 v6 v7 v8 ) (cwV 2 hts gX16_word_X16_start rfl rfl rfl (by decide +kernel) ⟨Nat.le_of_ble_eq_true rfl, Nat.le_of_ble_eq_true rfl⟩) ⟨fun a U gg mk q => by obtain ⟨q0, q1, qP, qK, qD, qF⟩ := q; exact ⟨q0, q1, qP, va_K.moved (u := U) (U := U.calling gg mk a) (Vm.Alike.refl U.vm) qK, qD, ns_same qF⟩, va_recv hK hP (ci := 23) (q0 := 0) rfl rfl, fun U hU hW => ⟨rfl, by rw [hU], by rw [hU]; exact hPc, va_K.moved hW.alike hKc, hDc.weaken (fun _ _ _ _ => trivial), ns_call hF hS hFc hU hW⟩⟩ rfl rfl hl.1 rfl (lv_room (Nat.le_of_ble_eq_true rfl)) dX16_word_27 ⟨Nat.le_of_ble_eq_true rfl, Nat.le_of_ble_eq_true rfl⟩) hS (fun q _ h => hFc q h) hFc (fun r9 u t H1 locs ht hvm hw hB hz1 hk1 hS => ?_)
  obtain rfl := hw
  obtain ⟨hP1, hK1, hD1⟩ := hB
  rw [ht] at hP1
  have hK1 := va_K.moved hvm.symm hK1
  obtain ⟨hP, hD⟩ := va_join (wr := []) (w1 := [(h0, .inr (23, [.int 1, v1, v2, v3, v4, v5, v6, v7, v8]))]) hP hD [0] [] rfl rfl (by decide) (by decide) hk1 hFc hP1 hD1
  have hK := (hK.sub (tys' := []) [] rfl).app hK1
  generalize H1 = H at hP hS ⊢
  have hP : va_P (dC, dI) vwCl [(h0, .inr (23, [.int 1, v1, v2, v3, v4, v5, v6, v7, v8]))] H := hP
  have hD : va_D A [(h0, .inr (23, [.int 1, v1, v2, v3, v4, v5, v6, v7, v8]))] := hD
  have hK : va_K (dC, dI) vwCl [] s := hK
  refine W.widen (k := 0) (n := 0) (Nat.le_of_ble_eq_true rfl) (Nat.le_of_ble_eq_true rfl) ?_
  refine lv_if_ne (tgt := 45) hx hb dX16_word_30 (by decide) (fun c2 => ?_) (fun c2 => absurd c2 (by decide))
  refine lv_iconst (v := 0) hx hb dX16_word_45 (by decide) ?_
  have hP9 := hP.sub (ws' := [(h0, .inr (23, [.int 1, v1, v2, v3, v4, v5, v6, v7, v8]))]) [0] rfl
  have hD9 := hD.sub (ws' := [(h0, .inr (23, [.int 1, v1, v2, v3, v4, v5, v6, v7, v8]))]) [0] (by decide) rfl
  have hK9 := hK.sub (tys' := []) [] rfl
  refine W.widen (k := 0) (n := 0) (Nat.le_of_ble_eq_true rfl) (Nat.le_of_ble_eq_true rfl) ?_
  exact W.iret (v := 0) hx hb hr (fun t ht hW => ⟨⟨_, (), rfl, rfl, by rw [ht]; exact hP9, va_K.moved hW.alike hK9, hD9⟩, hS.F ht⟩) hS.2.2 dX16_word_46
set_option maxHeartbeats 4000000 in
set_option maxRecDepth 100000 in
theorem kX9_word_5 (l : Launch) (dC : Nat → ClassId) (dI : Nat → Nat → Nat) (g : Nat → Nat) (sz : Nat) (h0 : Nat) (x0 : Int32) (ex0 : (-2147483648 : Int) ≤ x0.toInt ∧ x0.toInt ≤ (-1 : Int)) (hlt : l.stackTraces = false) : vx_Met l yX9_word wsX9_word ({ frames := 6, cells := 1, slots := 6, locals := 82 }) (va_Pc [.ref h0, .int x0, .int 4] (fun U => U.heap.size = sz ∧ va_P (dC, dI) vwCl [] U.heap ∧ va_K (dC, dI) vwCl [] U ∧ va_D (fun _ => True) [] ∧ ns_F g (va_A [] sz) U U.heap)) (va_Qv (fun _ : Unit => False) (fun _ _ => True) (va_A [] sz)) (vx_X (fun _ : Unit => True) (fun E _ _ => E = "java/lang/IllegalArgumentException") (va_A [] sz)) 1 6 (va_A [] sz) := by
  refine vx_ofW (cc := cX9_word) (maxL := 4) (ret := (some .int)) (by decide) rfl ?_
  intro p e s m args below meth c s₁ B hml hnox hv
  obtain ⟨rfl, hsz, hP, hK, hD0, hF⟩ := hv
  have hx := B.exec
  have hb := B.bytes
  have hr := B.returns
  have hts := atoms_spec (ws := wsX9_word) B.pre
  have hown : s.vm.findClass RX9 = some m.cls := findClass_of_methodNamed B.named
  have hlocks := B.notSynchronized
  subst hsz
  have hD := hD0.self (sz := s.heap.size)
  generalize hAe : va_A [] s.heap.size = A at hD hF ⊢
  have hA : ∀ q : Nat, s.heap.size ≤ q → A q := fun q h => by rw [← hAe]; exact Or.inr h
  have hS : va_S A s.heap s.heap [] := va_S.rf
  have hP : va_P (dC, dI) vwCl [] s.heap := hP
  have hl := lv_entry ([.ref h0, .int x0, .int 4]) (n := 4) (Nat.le_of_ble_eq_true rfl)
  rw [lg_entry_eq]
  generalize (lg_sl ([.ref h0, .int x0, .int 4]) ++ List.replicate (4 - (lg_sl ([.ref h0, .int x0, .int 4])).length) Slot.unset).toArray = ls at hl ⊢
  have hl : lv_has ls 4 [(0, .ref h0), (1, .int x0), (2, .int 4)] := hl
  refine lv_iload_n hx hb dX9_word_0 rfl (lv_at hl 1 rfl) ?_
  refine lv_if_lt (tgt := 10) hx hb dX9_word_1 (by decide) (fun c1 => ?_) (fun c1 => absurd (Int32.lt_iff_toInt_lt.mpr (show x0.toInt < (0 : Int) by omega)) c1)
  exact vx_throwS hx hb hlt (text := "letter is 0 to 25") (sa := (g 10)) (names := ["java/lang/RuntimeException", "java/lang/Exception"]) hown (by decide) (by decide) (hts (.classLink RX9 100 "java/lang/IllegalArgumentException") (by decide +kernel)) (hts (.initialized "java/lang/IllegalArgumentException") (by decide +kernel)) (ns_f20 hF) (vx_hat (B := [.declares ⟨"java/lang/RuntimeException", "<init>", "(Ljava/lang/String;)V"⟩, .declares ⟨"java/lang/Exception", "<init>", "(Ljava/lang/String;)V"⟩, .declares ⟨"java/lang/Throwable", "<init>", "(Ljava/lang/String;)V"⟩, .castable "java/lang/IllegalArgumentException" "java/lang/IllegalArgumentException"]) (fun w9 h9 => hts w9 (List.mem_cons_of_mem _ ((fun h9 => List.mem_append_left _ (List.mem_append_left _ (List.mem_append_right _ h9))) h9))) (by decide +kernel) (vx_c (va_Nw.use rfl (ns_f12 hF)) (vx_c (va_Nw.use rfl (ns_f13 hF)) (vx_c (va_Nw.use rfl (ns_f14 hF)) (vx_c (va_Nw.use rfl (ns_f11 hF)) vx_n))))) (by decide +kernel) (ns_f17 hF) (ns_f18 hF) hS (by rw [hml]; exact hl.1) dX9_word_10 dX9_word_13 dX9_word_14 dX9_word_16 dX9_word_19 (fun x hx => (hnox x hx).elim) (Nat.le_of_ble_eq_true rfl) (Nat.le_of_ble_eq_true rfl) (Nat.le_of_ble_eq_true rfl) (Nat.le_of_ble_eq_true rfl) hlocks (fun t9 hal hsz9 hk9 => ⟨(), trivial, rfl, Nat.le_trans hS.1 hsz9, fun q hq1 hq2 => (hk9 q (Nat.lt_of_lt_of_le hq1 hS.1)).trans (hS.2.1 q hq1 hq2)⟩) hS.2.2 (Nat.le_of_ble_eq_true rfl) (Nat.le_of_ble_eq_true rfl)
set_option maxHeartbeats 4000000 in
set_option maxRecDepth 100000 in
theorem kL_word_5 (l : Launch) (dC : Nat → ClassId) (dI : Nat → Nat → Nat) (g : Nat → Nat) (sz : Nat) (h0 : Nat) (x0 : Int32) (h1 : Nat) (v0 : Value) (v1 : Value) (v2 : Value) (v3 : Value) (v4 : Value) (v5 : Value) (v6 : Value) (v7 : Value) (v8 : Value) (v9 : Value) (v10 : Value) (v11 : Value) (v12 : Value) (v13 : Value) (v14 : Value) (v15 : Value) (ex0 : (-2147483648 : Int) ≤ x0.toInt ∧ x0.toInt ≤ (-1 : Int)) (hlt : l.stackTraces = false) : Met l yL_word wsL_word ({ frames := 7, cells := 1, slots := 6, locals := 105 }) (va_Pc [.ref h0, .int x0, .int 4, .ref h1] (fun U => U.heap.size = sz ∧ va_P (dC, dI) vwCl [(h0, .inr (16, [v0, v1, v2, v3, v4, v5, v6, v7, v8, v9, v10, v11, v12, v13, v14, v15]))] U.heap ∧ va_K (dC, dI) vwCl [] U ∧ va_D (fun _ => True) [(h0, .inr (16, [v0, v1, v2, v3, v4, v5, v6, v7, v8, v9, v10, v11, v12, v13, v14, v15]))] ∧ ns_F g (va_A [(h0, .inr (16, [v0, v1, v2, v3, v4, v5, v6, v7, v8, v9, v10, v11, v12, v13, v14, v15]))] sz) U U.heap)) (va_Qi (fun (r : Int32) (_ : Unit) => r = 1) (fun _ t => va_P (dC, dI) vwCl [(h0, .inr (16, [v0, v1, v2, v3, v4, v5, v6, v7, v8, v9, v10, v11, v12, v13, v14, v15]))] t.heap ∧ va_K (dC, dI) vwCl [] t ∧ va_D (va_A [(h0, .inr (16, [v0, v1, v2, v3, v4, v5, v6, v7, v8, v9, v10, v11, v12, v13, v14, v15]))] sz) [(h0, .inr (16, [v0, v1, v2, v3, v4, v5, v6, v7, v8, v9, v10, v11, v12, v13, v14, v15]))]) (va_A [(h0, .inr (16, [v0, v1, v2, v3, v4, v5, v6, v7, v8, v9, v10, v11, v12, v13, v14, v15]))] sz)) 1 6 (va_A [(h0, .inr (16, [v0, v1, v2, v3, v4, v5, v6, v7, v8, v9, v10, v11, v12, v13, v14, v15]))] sz) := by
  refine va_MetW (cc := cL_word) (maxL := 5) (ret := (some .int)) (hh := [(0, 11, 14, 19), (0, 11, 18, 21)]) (by decide) rfl ?_
  intro p e s m args below meth c s₁ B hml hv
  obtain ⟨rfl, hsz, hP, hK, hD0, hF⟩ := hv
  have hx := B.exec
  have hb := B.bytes
  have hr := B.returns
  have hts := atoms_spec (ws := wsL_word) B.pre
  have hown : s.vm.findClass RL = some m.cls := findClass_of_methodNamed B.named
  have hlocks := B.notSynchronized
  have htab : c.exceptionTable.toList = [⟨0, 11, 14, 19⟩, ⟨0, 11, 18, 21⟩] := vx_table B (hts _ List.mem_cons_self)
  subst hsz
  have hD := hD0.self (sz := s.heap.size)
  generalize hAe : va_A [(h0, .inr (16, [v0, v1, v2, v3, v4, v5, v6, v7, v8, v9, v10, v11, v12, v13, v14, v15]))] s.heap.size = A at hD hF ⊢
  have hA : ∀ q : Nat, s.heap.size ≤ q → A q := fun q h => by rw [← hAe]; exact Or.inr h
  have hS : va_S A s.heap s.heap [] := va_S.rf
  have hP : va_P (dC, dI) vwCl [(h0, .inr (16, [v0, v1, v2, v3, v4, v5, v6, v7, v8, v9, v10, v11, v12, v13, v14, v15]))] s.heap := hP
  have hl := lv_entry ([.ref h0, .int x0, .int 4, .ref h1]) (n := 5) (Nat.le_of_ble_eq_true rfl)
  rw [lg_entry_eq]
  generalize (lg_sl ([.ref h0, .int x0, .int 4, .ref h1]) ++ List.replicate (5 - (lg_sl ([.ref h0, .int x0, .int 4, .ref h1])).length) Slot.unset).toArray = ls at hl ⊢
  have hl : lv_has ls 5 [(0, .ref h0), (1, .int x0), (2, .int 4), (3, .ref h1)] := hl
  refine lv_aload_n hx hb dL_word_0 rfl (lv_at hl 3 rfl) ?_
  refine lv_aload_n hx hb dL_word_1 rfl (lv_at hl 0 rfl) ?_
  refine lv_iload_n hx hb dL_word_2 rfl (lv_at hl 1 rfl) ?_
  refine lv_iload_n hx hb dL_word_3 rfl (lv_at hl 2 rfl) ?_
  have hPc := hP.sub (ws' := []) [] rfl
  have hDc := hD.sub (ws' := []) [] (by decide) rfl
  have hKc := hK.sub (tys' := []) [] rfl
  have hFc := va_free (wc := []) hD hS hA [] rfl
  refine vx_callv (vx_runV (As := [.int x0, .int 4]) (rest := [.ref h1]) ⟨hx, hb, hml, hown, hts⟩ (kX9_word_5 l dC dI g s.heap.size h0 x0 ⟨by omega, by omega⟩ hlt) (cwV 2 hts gL_word_X9_word rfl rfl rfl (by decide +kernel) ⟨Nat.le_of_ble_eq_true rfl, Nat.le_of_ble_eq_true rfl⟩) ⟨fun a U gg mk q => by obtain ⟨q0, q1, qP, qK, qD, qF⟩ := q; exact ⟨q0, q1, qP, va_K.moved (u := U) (U := U.calling gg mk a) (Vm.Alike.refl U.vm) qK, qD, ns_same qF⟩, va_recv hK hP (ci := 16) (q0 := 0) rfl rfl, fun U hU hW => ⟨rfl, by rw [hU], by rw [hU]; exact hPc, va_K.moved hW.alike hKc, hDc.weaken (fun _ _ _ _ => trivial), ns_call hF hS hFc hU hW⟩⟩ rfl rfl hl.1 rfl (lv_room (Nat.le_of_ble_eq_true rfl)) dL_word_4 ⟨Nat.le_of_ble_eq_true rfl, Nat.le_of_ble_eq_true rfl⟩) hS (fun q _ h => hFc q h) hFc (fun q _ h => hFc q h) (fun E ce q9 u t H1 locs ht hvm hw hB hz1 hk1 hS hc1 hc2 hc3 => ?_) (fun _ _ _ _ _ _ hw _ _ _ _ => False.elim hw)
  obtain rfl : E = "java/lang/IllegalArgumentException" := hB
  obtain ⟨hP, hD⟩ := va_join (wr := [(h0, .inr (16, [v0, v1, v2, v3, v4, v5, v6, v7, v8, v9, v10, v11, v12, v13, v14, v15]))]) (w1 := []) hP hD [] [0] rfl rfl (by decide) (by decide) hk1 hFc (fun k q h => by simp at h) ⟨fun i j p q h => by simp at h, fun k q h => by simp at h⟩
  have hK := hK.sub (tys' := []) [] rfl
  generalize H1 = H at hP hS hc1 ⊢
  have hP : va_P (dC, dI) vwCl [(h0, .inr (16, [v0, v1, v2, v3, v4, v5, v6, v7, v8, v9, v10, v11, v12, v13, v14, v15]))] H := hP
  have hD : va_D A [(h0, .inr (16, [v0, v1, v2, v3, v4, v5, v6, v7, v8, v9, v10, v11, v12, v13, v14, v15]))] := hD
  have hK : va_K (dC, dI) vwCl [] s := hK
  refine vx_widen (k := 1) (n := 6) (Nat.le_of_ble_eq_true rfl) (Nat.le_of_ble_eq_true rfl) ?_
  refine vx_catch hown [] ⟨0, 11, 14, 19⟩ [⟨0, 11, 18, 21⟩] htab (fun z hz => by simp at hz) (by decide) (by decide) (hts (.classLink RL 19 "java/lang/IllegalArgumentException") (by decide +kernel)) (va_Nw.use rfl (ns_f11 hF)) hc1 hc2 hc3 ?_
  refine W.eq (g2 := F0 m 14 ls [.ref q9]) rfl ?_
  refine lv_astore (lv' := [(4, .ref q9), (0, .ref h0), (1, .int x0), (2, .int 4), (3, .ref h1)]) hx hb dL_word_14 hl (by decide) rfl (fun ls hl => ?_)
  refine lv_iconst (v := 1) hx hb dL_word_16 (by decide) ?_
  have hP9 := hP.sub (ws' := [(h0, .inr (16, [v0, v1, v2, v3, v4, v5, v6, v7, v8, v9, v10, v11, v12, v13, v14, v15]))]) [0] rfl
  have hD9 := hD.sub (ws' := [(h0, .inr (16, [v0, v1, v2, v3, v4, v5, v6, v7, v8, v9, v10, v11, v12, v13, v14, v15]))]) [0] (by decide) rfl
  have hK9 := hK.sub (tys' := []) [] rfl
  refine W.widen (k := 1) (n := 6) (Nat.le_of_ble_eq_true rfl) (Nat.le_of_ble_eq_true rfl) ?_
  exact W.iret (v := 1) hx hb hr (fun t ht hW => ⟨⟨_, (), rfl, rfl, by rw [ht]; exact hP9, va_K.moved hW.alike hK9, hD9⟩, hS.F ht⟩) hS.2.2 dL_word_17
set_option maxHeartbeats 4000000 in
set_option maxRecDepth 100000 in
theorem kX16_word_5 (l : Launch) (dC : Nat → ClassId) (dI : Nat → Nat → Nat) (g : Nat → Nat) (sz : Nat) (h0 : Nat) (x0 : Int32) (v0 : Value) (v1 : Value) (v2 : Value) (v3 : Value) (v4 : Value) (v5 : Value) (v6 : Value) (v7 : Value) (v8 : Value) (ex0 : (-2147483648 : Int) ≤ x0.toInt ∧ x0.toInt ≤ (-1 : Int)) : Met l yX16_word wsX16_word ({ frames := 2, cells := 0, slots := 0, locals := 44 }) (va_Pc [.ref h0, .int x0, .int 4] (fun U => U.heap.size = sz ∧ va_P (dC, dI) vwCl [(h0, .inr (23, [v0, v1, v2, v3, v4, v5, v6, v7, v8]))] U.heap ∧ va_K (dC, dI) vwCl [] U ∧ va_D (fun _ => True) [(h0, .inr (23, [v0, v1, v2, v3, v4, v5, v6, v7, v8]))] ∧ ns_F g (va_A [(h0, .inr (23, [v0, v1, v2, v3, v4, v5, v6, v7, v8]))] sz) U U.heap)) (va_Qi (fun (r : Int32) (_ : Unit) => r = 0) (fun _ t => va_P (dC, dI) vwCl [(h0, .inr (23, [.int 1, v1, v2, v3, v4, v5, v6, v7, v8]))] t.heap ∧ va_K (dC, dI) vwCl [] t ∧ va_D (va_A [(h0, .inr (23, [v0, v1, v2, v3, v4, v5, v6, v7, v8]))] sz) [(h0, .inr (23, [.int 1, v1, v2, v3, v4, v5, v6, v7, v8]))]) (va_A [(h0, .inr (23, [v0, v1, v2, v3, v4, v5, v6, v7, v8]))] sz)) 0 0 (va_A [(h0, .inr (23, [v0, v1, v2, v3, v4, v5, v6, v7, v8]))] sz) := by
  refine Met.ofW (cc := cX16_word) (maxL := 5) (ret := (some .int)) (by decide) rfl ?_
  intro p e s m args below meth c s₁ B hml hv
  obtain ⟨rfl, hsz, hP, hK, hD0, hF⟩ := hv
  have hx := B.exec
  have hb := B.bytes
  have hr := B.returns
  have hts := atoms_spec (ws := wsX16_word) B.pre
  have hown : s.vm.findClass RX16 = some m.cls := findClass_of_methodNamed B.named
  have hlocks := B.notSynchronized
  subst hsz
  have hD := hD0.self (sz := s.heap.size)
  generalize hAe : va_A [(h0, .inr (23, [v0, v1, v2, v3, v4, v5, v6, v7, v8]))] s.heap.size = A at hD hF ⊢
  have hA : ∀ q : Nat, s.heap.size ≤ q → A q := fun q h => by rw [← hAe]; exact Or.inr h
  have hS : va_S A s.heap s.heap [] := va_S.rf
  have hP : va_P (dC, dI) vwCl [(h0, .inr (23, [v0, v1, v2, v3, v4, v5, v6, v7, v8]))] s.heap := hP
  have hl := lv_entry ([.ref h0, .int x0, .int 4]) (n := 5) (Nat.le_of_ble_eq_true rfl)
  rw [lg_entry_eq]
  generalize (lg_sl ([.ref h0, .int x0, .int 4]) ++ List.replicate (5 - (lg_sl ([.ref h0, .int x0, .int 4])).length) Slot.unset).toArray = ls at hl ⊢
  have hl : lv_has ls 5 [(0, .ref h0), (1, .int x0), (2, .int 4)] := hl
  refine lv_aload_n hx hb dX16_word_0 rfl (lv_at hl 0 rfl) ?_
  refine lv_iload_n hx hb dX16_word_1 rfl (lv_at hl 1 rfl) ?_
  refine lv_iconst (v := 0) hx hb dX16_word_2 (by decide) ?_
  refine lv_bipush (v := 25) hx hb dX16_word_3 (by decide) ?_
  have hPc := hP.sub (ws' := []) [] rfl
  have hDc := hD.sub (ws' := []) [] (by decide) rfl
  have hKc := hK.sub (tys' := []) [] rfl
  have hFc := va_free (wc := []) hD hS hA [] rfl
  refine va_calli (va_runS (As := [.int x0, .int 0, .int 25]) (rest := [.ref h0]) ⟨hx, hb, hml, hown, hts⟩ (kX16_isIn l dC dI g s.heap.size x0 ⟨by omega, by omega⟩) (va_cwS 3 hts gX16_word_X16_isIn rfl rfl rfl (by decide +kernel) ⟨Nat.le_of_ble_eq_true rfl, Nat.le_of_ble_eq_true rfl⟩) ⟨fun a U gg mk q => by obtain ⟨q0, q1, qP, qK, qD, qF⟩ := q; exact ⟨q0, q1, qP, va_K.moved (u := U) (U := U.calling gg mk a) (Vm.Alike.refl U.vm) qK, qD, ns_same qF⟩, fun U hU hW => ⟨rfl, by rw [hU], by rw [hU]; exact hPc, va_K.moved hW.alike hKc, hDc.weaken (fun _ _ _ _ => trivial), ns_call hF hS hFc hU hW⟩⟩ rfl rfl hl.1 rfl (lv_room (Nat.le_of_ble_eq_true rfl)) dX16_word_5 ⟨Nat.le_of_ble_eq_true rfl, Nat.le_of_ble_eq_true rfl⟩) hS (fun q _ h => hFc q h) hFc (fun r9 u t H1 locs ht hvm hw hB hz1 hk1 hS => ?_)
  obtain rfl := hw
  obtain ⟨hP1, hK1, hD1⟩ := hB
  rw [ht] at hP1
  have hK1 := va_K.moved hvm.symm hK1
  obtain ⟨hP, hD⟩ := va_join (wr := [(h0, .inr (23, [v0, v1, v2, v3, v4, v5, v6, v7, v8]))]) (w1 := []) hP hD [] [0] rfl rfl (by decide) (by decide) hk1 hFc hP1 hD1
  have hK := (hK.sub (tys' := []) [] rfl).app hK1
  generalize H1 = H at hP hS ⊢
  have hP : va_P (dC, dI) vwCl [(h0, .inr (23, [v0, v1, v2, v3, v4, v5, v6, v7, v8]))] H := hP
  have hD : va_D A [(h0, .inr (23, [v0, v1, v2, v3, v4, v5, v6, v7, v8]))] := hD
  have hK : va_K (dC, dI) vwCl [] s := hK
  refine W.widen (k := 0) (n := 0) (Nat.le_of_ble_eq_true rfl) (Nat.le_of_ble_eq_true rfl) ?_
  refine lv_if_eq (tgt := 21) hx hb dX16_word_8 (by decide) (fun c1 => ?_) (fun c1 => absurd (by decide) c1)
  refine lv_iconst (v := 1) hx hb dX16_word_21 (by decide) ?_
  refine lv_goto (tgt := 26) hx hb dX16_word_22 (by decide) ?_
  refine lv_iconst (v := 1) hx hb dX16_word_26 (by decide) ?_
  have hPc := hP.sub (ws' := [(h0, .inr (23, [v0, v1, v2, v3, v4, v5, v6, v7, v8]))]) [0] rfl
  have hDc := hD.sub (ws' := [(h0, .inr (23, [v0, v1, v2, v3, v4, v5, v6, v7, v8]))]) [0] (by decide) rfl
  have hKc := hK.sub (tys' := []) [] rfl
  have hFc := va_free (wc := [(h0, .inr (23, [v0, v1, v2, v3, v4, v5, v6, v7, v8]))]) hD hS hA [0] rfl
  refine va_calli (va_runV (As := [.int 1, .int 1]) (rest := []) ⟨hx, hb, hml, hown, hts⟩ (kX16_start l dC dI g H.size h0 v0 v1 v2 v3 v4 v5 v6 v7 v8 ) (cwV 2 hts gX16_word_X16_start rfl rfl rfl (by decide +kernel) ⟨Nat.le_of_ble_eq_true rfl, Nat.le_of_ble_eq_true rfl⟩) ⟨fun a U gg mk q => by obtain ⟨q0, q1, qP, qK, qD, qF⟩ := q; exact ⟨q0, q1, qP, va_K.moved (u := U) (U := U.calling gg mk a) (Vm.Alike.refl U.vm) qK, qD, ns_same qF⟩, va_recv hK hP (ci := 23) (q0 := 0) rfl rfl, fun U hU hW => ⟨rfl, by rw [hU], by rw [hU]; exact hPc, va_K.moved hW.alike hKc, hDc.weaken (fun _ _ _ _ => trivial), ns_call hF hS hFc hU hW⟩⟩ rfl rfl hl.1 rfl (lv_room (Nat.le_of_ble_eq_true rfl)) dX16_word_27 ⟨Nat.le_of_ble_eq_true rfl, Nat.le_of_ble_eq_true rfl⟩) hS (fun q _ h => hFc q h) hFc (fun r9 u t H1 locs ht hvm hw hB hz1 hk1 hS => ?_)
  obtain rfl := hw
  obtain ⟨hP1, hK1, hD1⟩ := hB
  rw [ht] at hP1
  have hK1 := va_K.moved hvm.symm hK1
  obtain ⟨hP, hD⟩ := va_join (wr := []) (w1 := [(h0, .inr (23, [.int 1, v1, v2, v3, v4, v5, v6, v7, v8]))]) hP hD [0] [] rfl rfl (by decide) (by decide) hk1 hFc hP1 hD1
  have hK := (hK.sub (tys' := []) [] rfl).app hK1
  generalize H1 = H at hP hS ⊢
  have hP : va_P (dC, dI) vwCl [(h0, .inr (23, [.int 1, v1, v2, v3, v4, v5, v6, v7, v8]))] H := hP
  have hD : va_D A [(h0, .inr (23, [.int 1, v1, v2, v3, v4, v5, v6, v7, v8]))] := hD
  have hK : va_K (dC, dI) vwCl [] s := hK
  refine W.widen (k := 0) (n := 0) (Nat.le_of_ble_eq_true rfl) (Nat.le_of_ble_eq_true rfl) ?_
  refine lv_if_ne (tgt := 45) hx hb dX16_word_30 (by decide) (fun c2 => ?_) (fun c2 => absurd c2 (by decide))
  refine lv_iconst (v := 0) hx hb dX16_word_45 (by decide) ?_
  have hP9 := hP.sub (ws' := [(h0, .inr (23, [.int 1, v1, v2, v3, v4, v5, v6, v7, v8]))]) [0] rfl
  have hD9 := hD.sub (ws' := [(h0, .inr (23, [.int 1, v1, v2, v3, v4, v5, v6, v7, v8]))]) [0] (by decide) rfl
  have hK9 := hK.sub (tys' := []) [] rfl
  refine W.widen (k := 0) (n := 0) (Nat.le_of_ble_eq_true rfl) (Nat.le_of_ble_eq_true rfl) ?_
  exact W.iret (v := 0) hx hb hr (fun t ht hW => ⟨⟨_, (), rfl, rfl, by rw [ht]; exact hP9, va_K.moved hW.alike hK9, hD9⟩, hS.F ht⟩) hS.2.2 dX16_word_46
set_option maxHeartbeats 4000000 in
set_option maxRecDepth 100000 in
theorem kX9_word_6 (l : Launch) (dC : Nat → ClassId) (dI : Nat → Nat → Nat) (g : Nat → Nat) (sz : Nat) (h0 : Nat) (x0 : Int32) (ex0 : (-2147483648 : Int) ≤ x0.toInt ∧ x0.toInt ≤ (-1 : Int)) (hlt : l.stackTraces = false) : vx_Met l yX9_word wsX9_word ({ frames := 6, cells := 1, slots := 6, locals := 82 }) (va_Pc [.ref h0, .int x0, .int 5] (fun U => U.heap.size = sz ∧ va_P (dC, dI) vwCl [] U.heap ∧ va_K (dC, dI) vwCl [] U ∧ va_D (fun _ => True) [] ∧ ns_F g (va_A [] sz) U U.heap)) (va_Qv (fun _ : Unit => False) (fun _ _ => True) (va_A [] sz)) (vx_X (fun _ : Unit => True) (fun E _ _ => E = "java/lang/IllegalArgumentException") (va_A [] sz)) 1 6 (va_A [] sz) := by
  refine vx_ofW (cc := cX9_word) (maxL := 4) (ret := (some .int)) (by decide) rfl ?_
  intro p e s m args below meth c s₁ B hml hnox hv
  obtain ⟨rfl, hsz, hP, hK, hD0, hF⟩ := hv
  have hx := B.exec
  have hb := B.bytes
  have hr := B.returns
  have hts := atoms_spec (ws := wsX9_word) B.pre
  have hown : s.vm.findClass RX9 = some m.cls := findClass_of_methodNamed B.named
  have hlocks := B.notSynchronized
  subst hsz
  have hD := hD0.self (sz := s.heap.size)
  generalize hAe : va_A [] s.heap.size = A at hD hF ⊢
  have hA : ∀ q : Nat, s.heap.size ≤ q → A q := fun q h => by rw [← hAe]; exact Or.inr h
  have hS : va_S A s.heap s.heap [] := va_S.rf
  have hP : va_P (dC, dI) vwCl [] s.heap := hP
  have hl := lv_entry ([.ref h0, .int x0, .int 5]) (n := 4) (Nat.le_of_ble_eq_true rfl)
  rw [lg_entry_eq]
  generalize (lg_sl ([.ref h0, .int x0, .int 5]) ++ List.replicate (4 - (lg_sl ([.ref h0, .int x0, .int 5])).length) Slot.unset).toArray = ls at hl ⊢
  have hl : lv_has ls 4 [(0, .ref h0), (1, .int x0), (2, .int 5)] := hl
  refine lv_iload_n hx hb dX9_word_0 rfl (lv_at hl 1 rfl) ?_
  refine lv_if_lt (tgt := 10) hx hb dX9_word_1 (by decide) (fun c1 => ?_) (fun c1 => absurd (Int32.lt_iff_toInt_lt.mpr (show x0.toInt < (0 : Int) by omega)) c1)
  exact vx_throwS hx hb hlt (text := "letter is 0 to 25") (sa := (g 10)) (names := ["java/lang/RuntimeException", "java/lang/Exception"]) hown (by decide) (by decide) (hts (.classLink RX9 100 "java/lang/IllegalArgumentException") (by decide +kernel)) (hts (.initialized "java/lang/IllegalArgumentException") (by decide +kernel)) (ns_f20 hF) (vx_hat (B := [.declares ⟨"java/lang/RuntimeException", "<init>", "(Ljava/lang/String;)V"⟩, .declares ⟨"java/lang/Exception", "<init>", "(Ljava/lang/String;)V"⟩, .declares ⟨"java/lang/Throwable", "<init>", "(Ljava/lang/String;)V"⟩, .castable "java/lang/IllegalArgumentException" "java/lang/IllegalArgumentException"]) (fun w9 h9 => hts w9 (List.mem_cons_of_mem _ ((fun h9 => List.mem_append_left _ (List.mem_append_left _ (List.mem_append_right _ h9))) h9))) (by decide +kernel) (vx_c (va_Nw.use rfl (ns_f12 hF)) (vx_c (va_Nw.use rfl (ns_f13 hF)) (vx_c (va_Nw.use rfl (ns_f14 hF)) (vx_c (va_Nw.use rfl (ns_f11 hF)) vx_n))))) (by decide +kernel) (ns_f17 hF) (ns_f18 hF) hS (by rw [hml]; exact hl.1) dX9_word_10 dX9_word_13 dX9_word_14 dX9_word_16 dX9_word_19 (fun x hx => (hnox x hx).elim) (Nat.le_of_ble_eq_true rfl) (Nat.le_of_ble_eq_true rfl) (Nat.le_of_ble_eq_true rfl) (Nat.le_of_ble_eq_true rfl) hlocks (fun t9 hal hsz9 hk9 => ⟨(), trivial, rfl, Nat.le_trans hS.1 hsz9, fun q hq1 hq2 => (hk9 q (Nat.lt_of_lt_of_le hq1 hS.1)).trans (hS.2.1 q hq1 hq2)⟩) hS.2.2 (Nat.le_of_ble_eq_true rfl) (Nat.le_of_ble_eq_true rfl)
set_option maxHeartbeats 4000000 in
set_option maxRecDepth 100000 in
theorem kL_word_6 (l : Launch) (dC : Nat → ClassId) (dI : Nat → Nat → Nat) (g : Nat → Nat) (sz : Nat) (h0 : Nat) (x0 : Int32) (h1 : Nat) (v0 : Value) (v1 : Value) (v2 : Value) (v3 : Value) (v4 : Value) (v5 : Value) (v6 : Value) (v7 : Value) (v8 : Value) (v9 : Value) (v10 : Value) (v11 : Value) (v12 : Value) (v13 : Value) (v14 : Value) (v15 : Value) (ex0 : (-2147483648 : Int) ≤ x0.toInt ∧ x0.toInt ≤ (-1 : Int)) (hlt : l.stackTraces = false) : Met l yL_word wsL_word ({ frames := 7, cells := 1, slots := 6, locals := 105 }) (va_Pc [.ref h0, .int x0, .int 5, .ref h1] (fun U => U.heap.size = sz ∧ va_P (dC, dI) vwCl [(h0, .inr (16, [v0, v1, v2, v3, v4, v5, v6, v7, v8, v9, v10, v11, v12, v13, v14, v15]))] U.heap ∧ va_K (dC, dI) vwCl [] U ∧ va_D (fun _ => True) [(h0, .inr (16, [v0, v1, v2, v3, v4, v5, v6, v7, v8, v9, v10, v11, v12, v13, v14, v15]))] ∧ ns_F g (va_A [(h0, .inr (16, [v0, v1, v2, v3, v4, v5, v6, v7, v8, v9, v10, v11, v12, v13, v14, v15]))] sz) U U.heap)) (va_Qi (fun (r : Int32) (_ : Unit) => r = 1) (fun _ t => va_P (dC, dI) vwCl [(h0, .inr (16, [v0, v1, v2, v3, v4, v5, v6, v7, v8, v9, v10, v11, v12, v13, v14, v15]))] t.heap ∧ va_K (dC, dI) vwCl [] t ∧ va_D (va_A [(h0, .inr (16, [v0, v1, v2, v3, v4, v5, v6, v7, v8, v9, v10, v11, v12, v13, v14, v15]))] sz) [(h0, .inr (16, [v0, v1, v2, v3, v4, v5, v6, v7, v8, v9, v10, v11, v12, v13, v14, v15]))]) (va_A [(h0, .inr (16, [v0, v1, v2, v3, v4, v5, v6, v7, v8, v9, v10, v11, v12, v13, v14, v15]))] sz)) 1 6 (va_A [(h0, .inr (16, [v0, v1, v2, v3, v4, v5, v6, v7, v8, v9, v10, v11, v12, v13, v14, v15]))] sz) := by
  refine va_MetW (cc := cL_word) (maxL := 5) (ret := (some .int)) (hh := [(0, 11, 14, 19), (0, 11, 18, 21)]) (by decide) rfl ?_
  intro p e s m args below meth c s₁ B hml hv
  obtain ⟨rfl, hsz, hP, hK, hD0, hF⟩ := hv
  have hx := B.exec
  have hb := B.bytes
  have hr := B.returns
  have hts := atoms_spec (ws := wsL_word) B.pre
  have hown : s.vm.findClass RL = some m.cls := findClass_of_methodNamed B.named
  have hlocks := B.notSynchronized
  have htab : c.exceptionTable.toList = [⟨0, 11, 14, 19⟩, ⟨0, 11, 18, 21⟩] := vx_table B (hts _ List.mem_cons_self)
  subst hsz
  have hD := hD0.self (sz := s.heap.size)
  generalize hAe : va_A [(h0, .inr (16, [v0, v1, v2, v3, v4, v5, v6, v7, v8, v9, v10, v11, v12, v13, v14, v15]))] s.heap.size = A at hD hF ⊢
  have hA : ∀ q : Nat, s.heap.size ≤ q → A q := fun q h => by rw [← hAe]; exact Or.inr h
  have hS : va_S A s.heap s.heap [] := va_S.rf
  have hP : va_P (dC, dI) vwCl [(h0, .inr (16, [v0, v1, v2, v3, v4, v5, v6, v7, v8, v9, v10, v11, v12, v13, v14, v15]))] s.heap := hP
  have hl := lv_entry ([.ref h0, .int x0, .int 5, .ref h1]) (n := 5) (Nat.le_of_ble_eq_true rfl)
  rw [lg_entry_eq]
  generalize (lg_sl ([.ref h0, .int x0, .int 5, .ref h1]) ++ List.replicate (5 - (lg_sl ([.ref h0, .int x0, .int 5, .ref h1])).length) Slot.unset).toArray = ls at hl ⊢
  have hl : lv_has ls 5 [(0, .ref h0), (1, .int x0), (2, .int 5), (3, .ref h1)] := hl
  refine lv_aload_n hx hb dL_word_0 rfl (lv_at hl 3 rfl) ?_
  refine lv_aload_n hx hb dL_word_1 rfl (lv_at hl 0 rfl) ?_
  refine lv_iload_n hx hb dL_word_2 rfl (lv_at hl 1 rfl) ?_
  refine lv_iload_n hx hb dL_word_3 rfl (lv_at hl 2 rfl) ?_
  have hPc := hP.sub (ws' := []) [] rfl
  have hDc := hD.sub (ws' := []) [] (by decide) rfl
  have hKc := hK.sub (tys' := []) [] rfl
  have hFc := va_free (wc := []) hD hS hA [] rfl
  refine vx_callv (vx_runV (As := [.int x0, .int 5]) (rest := [.ref h1]) ⟨hx, hb, hml, hown, hts⟩ (kX9_word_6 l dC dI g s.heap.size h0 x0 ⟨by omega, by omega⟩ hlt) (cwV 2 hts gL_word_X9_word rfl rfl rfl (by decide +kernel) ⟨Nat.le_of_ble_eq_true rfl, Nat.le_of_ble_eq_true rfl⟩) ⟨fun a U gg mk q => by obtain ⟨q0, q1, qP, qK, qD, qF⟩ := q; exact ⟨q0, q1, qP, va_K.moved (u := U) (U := U.calling gg mk a) (Vm.Alike.refl U.vm) qK, qD, ns_same qF⟩, va_recv hK hP (ci := 16) (q0 := 0) rfl rfl, fun U hU hW => ⟨rfl, by rw [hU], by rw [hU]; exact hPc, va_K.moved hW.alike hKc, hDc.weaken (fun _ _ _ _ => trivial), ns_call hF hS hFc hU hW⟩⟩ rfl rfl hl.1 rfl (lv_room (Nat.le_of_ble_eq_true rfl)) dL_word_4 ⟨Nat.le_of_ble_eq_true rfl, Nat.le_of_ble_eq_true rfl⟩) hS (fun q _ h => hFc q h) hFc (fun q _ h => hFc q h) (fun E ce q9 u t H1 locs ht hvm hw hB hz1 hk1 hS hc1 hc2 hc3 => ?_) (fun _ _ _ _ _ _ hw _ _ _ _ => False.elim hw)
  obtain rfl : E = "java/lang/IllegalArgumentException" := hB
  obtain ⟨hP, hD⟩ := va_join (wr := [(h0, .inr (16, [v0, v1, v2, v3, v4, v5, v6, v7, v8, v9, v10, v11, v12, v13, v14, v15]))]) (w1 := []) hP hD [] [0] rfl rfl (by decide) (by decide) hk1 hFc (fun k q h => by simp at h) ⟨fun i j p q h => by simp at h, fun k q h => by simp at h⟩
  have hK := hK.sub (tys' := []) [] rfl
  generalize H1 = H at hP hS hc1 ⊢
  have hP : va_P (dC, dI) vwCl [(h0, .inr (16, [v0, v1, v2, v3, v4, v5, v6, v7, v8, v9, v10, v11, v12, v13, v14, v15]))] H := hP
  have hD : va_D A [(h0, .inr (16, [v0, v1, v2, v3, v4, v5, v6, v7, v8, v9, v10, v11, v12, v13, v14, v15]))] := hD
  have hK : va_K (dC, dI) vwCl [] s := hK
  refine vx_widen (k := 1) (n := 6) (Nat.le_of_ble_eq_true rfl) (Nat.le_of_ble_eq_true rfl) ?_
  refine vx_catch hown [] ⟨0, 11, 14, 19⟩ [⟨0, 11, 18, 21⟩] htab (fun z hz => by simp at hz) (by decide) (by decide) (hts (.classLink RL 19 "java/lang/IllegalArgumentException") (by decide +kernel)) (va_Nw.use rfl (ns_f11 hF)) hc1 hc2 hc3 ?_
  refine W.eq (g2 := F0 m 14 ls [.ref q9]) rfl ?_
  refine lv_astore (lv' := [(4, .ref q9), (0, .ref h0), (1, .int x0), (2, .int 5), (3, .ref h1)]) hx hb dL_word_14 hl (by decide) rfl (fun ls hl => ?_)
  refine lv_iconst (v := 1) hx hb dL_word_16 (by decide) ?_
  have hP9 := hP.sub (ws' := [(h0, .inr (16, [v0, v1, v2, v3, v4, v5, v6, v7, v8, v9, v10, v11, v12, v13, v14, v15]))]) [0] rfl
  have hD9 := hD.sub (ws' := [(h0, .inr (16, [v0, v1, v2, v3, v4, v5, v6, v7, v8, v9, v10, v11, v12, v13, v14, v15]))]) [0] (by decide) rfl
  have hK9 := hK.sub (tys' := []) [] rfl
  refine W.widen (k := 1) (n := 6) (Nat.le_of_ble_eq_true rfl) (Nat.le_of_ble_eq_true rfl) ?_
  exact W.iret (v := 1) hx hb hr (fun t ht hW => ⟨⟨_, (), rfl, rfl, by rw [ht]; exact hP9, va_K.moved hW.alike hK9, hD9⟩, hS.F ht⟩) hS.2.2 dL_word_17
set_option maxHeartbeats 4000000 in
set_option maxRecDepth 100000 in
theorem kX16_word_6 (l : Launch) (dC : Nat → ClassId) (dI : Nat → Nat → Nat) (g : Nat → Nat) (sz : Nat) (h0 : Nat) (x0 : Int32) (v0 : Value) (v1 : Value) (v2 : Value) (v3 : Value) (v4 : Value) (v5 : Value) (v6 : Value) (v7 : Value) (v8 : Value) (ex0 : (-2147483648 : Int) ≤ x0.toInt ∧ x0.toInt ≤ (-1 : Int)) : Met l yX16_word wsX16_word ({ frames := 2, cells := 0, slots := 0, locals := 44 }) (va_Pc [.ref h0, .int x0, .int 5] (fun U => U.heap.size = sz ∧ va_P (dC, dI) vwCl [(h0, .inr (23, [v0, v1, v2, v3, v4, v5, v6, v7, v8]))] U.heap ∧ va_K (dC, dI) vwCl [] U ∧ va_D (fun _ => True) [(h0, .inr (23, [v0, v1, v2, v3, v4, v5, v6, v7, v8]))] ∧ ns_F g (va_A [(h0, .inr (23, [v0, v1, v2, v3, v4, v5, v6, v7, v8]))] sz) U U.heap)) (va_Qi (fun (r : Int32) (_ : Unit) => r = 0) (fun _ t => va_P (dC, dI) vwCl [(h0, .inr (23, [.int 1, v1, v2, v3, v4, v5, v6, v7, v8]))] t.heap ∧ va_K (dC, dI) vwCl [] t ∧ va_D (va_A [(h0, .inr (23, [v0, v1, v2, v3, v4, v5, v6, v7, v8]))] sz) [(h0, .inr (23, [.int 1, v1, v2, v3, v4, v5, v6, v7, v8]))]) (va_A [(h0, .inr (23, [v0, v1, v2, v3, v4, v5, v6, v7, v8]))] sz)) 0 0 (va_A [(h0, .inr (23, [v0, v1, v2, v3, v4, v5, v6, v7, v8]))] sz) := by
  refine Met.ofW (cc := cX16_word) (maxL := 5) (ret := (some .int)) (by decide) rfl ?_
  intro p e s m args below meth c s₁ B hml hv
  obtain ⟨rfl, hsz, hP, hK, hD0, hF⟩ := hv
  have hx := B.exec
  have hb := B.bytes
  have hr := B.returns
  have hts := atoms_spec (ws := wsX16_word) B.pre
  have hown : s.vm.findClass RX16 = some m.cls := findClass_of_methodNamed B.named
  have hlocks := B.notSynchronized
  subst hsz
  have hD := hD0.self (sz := s.heap.size)
  generalize hAe : va_A [(h0, .inr (23, [v0, v1, v2, v3, v4, v5, v6, v7, v8]))] s.heap.size = A at hD hF ⊢
  have hA : ∀ q : Nat, s.heap.size ≤ q → A q := fun q h => by rw [← hAe]; exact Or.inr h
  have hS : va_S A s.heap s.heap [] := va_S.rf
  have hP : va_P (dC, dI) vwCl [(h0, .inr (23, [v0, v1, v2, v3, v4, v5, v6, v7, v8]))] s.heap := hP
  have hl := lv_entry ([.ref h0, .int x0, .int 5]) (n := 5) (Nat.le_of_ble_eq_true rfl)
  rw [lg_entry_eq]
  generalize (lg_sl ([.ref h0, .int x0, .int 5]) ++ List.replicate (5 - (lg_sl ([.ref h0, .int x0, .int 5])).length) Slot.unset).toArray = ls at hl ⊢
  have hl : lv_has ls 5 [(0, .ref h0), (1, .int x0), (2, .int 5)] := hl
  refine lv_aload_n hx hb dX16_word_0 rfl (lv_at hl 0 rfl) ?_
  refine lv_iload_n hx hb dX16_word_1 rfl (lv_at hl 1 rfl) ?_
  refine lv_iconst (v := 0) hx hb dX16_word_2 (by decide) ?_
  refine lv_bipush (v := 25) hx hb dX16_word_3 (by decide) ?_
  have hPc := hP.sub (ws' := []) [] rfl
  have hDc := hD.sub (ws' := []) [] (by decide) rfl
  have hKc := hK.sub (tys' := []) [] rfl
  have hFc := va_free (wc := []) hD hS hA [] rfl
  refine va_calli (va_runS (As := [.int x0, .int 0, .int 25]) (rest := [.ref h0]) ⟨hx, hb, hml, hown, hts⟩ (kX16_isIn l dC dI g s.heap.size x0 ⟨by omega, by omega⟩) (va_cwS 3 hts gX16_word_X16_isIn rfl rfl rfl (by decide +kernel) ⟨Nat.le_of_ble_eq_true rfl, Nat.le_of_ble_eq_true rfl⟩) ⟨fun a U gg mk q => by obtain ⟨q0, q1, qP, qK, qD, qF⟩ := q; exact ⟨q0, q1, qP, va_K.moved (u := U) (U := U.calling gg mk a) (Vm.Alike.refl U.vm) qK, qD, ns_same qF⟩, fun U hU hW => ⟨rfl, by rw [hU], by rw [hU]; exact hPc, va_K.moved hW.alike hKc, hDc.weaken (fun _ _ _ _ => trivial), ns_call hF hS hFc hU hW⟩⟩ rfl rfl hl.1 rfl (lv_room (Nat.le_of_ble_eq_true rfl)) dX16_word_5 ⟨Nat.le_of_ble_eq_true rfl, Nat.le_of_ble_eq_true rfl⟩) hS (fun q _ h => hFc q h) hFc (fun r9 u t H1 locs ht hvm hw hB hz1 hk1 hS => ?_)
  obtain rfl := hw
  obtain ⟨hP1, hK1, hD1⟩ := hB
  rw [ht] at hP1
  have hK1 := va_K.moved hvm.symm hK1
  obtain ⟨hP, hD⟩ := va_join (wr := [(h0, .inr (23, [v0, v1, v2, v3, v4, v5, v6, v7, v8]))]) (w1 := []) hP hD [] [0] rfl rfl (by decide) (by decide) hk1 hFc hP1 hD1
  have hK := (hK.sub (tys' := []) [] rfl).app hK1
  generalize H1 = H at hP hS ⊢
  have hP : va_P (dC, dI) vwCl [(h0, .inr (23, [v0, v1, v2, v3, v4, v5, v6, v7, v8]))] H := hP
  have hD : va_D A [(h0, .inr (23, [v0, v1, v2, v3, v4, v5, v6, v7, v8]))] := hD
  have hK : va_K (dC, dI) vwCl [] s := hK
  refine W.widen (k := 0) (n := 0) (Nat.le_of_ble_eq_true rfl) (Nat.le_of_ble_eq_true rfl) ?_
  refine lv_if_eq (tgt := 21) hx hb dX16_word_8 (by decide) (fun c1 => ?_) (fun c1 => absurd (by decide) c1)
  refine lv_iconst (v := 1) hx hb dX16_word_21 (by decide) ?_
  refine lv_goto (tgt := 26) hx hb dX16_word_22 (by decide) ?_
  refine lv_iconst (v := 1) hx hb dX16_word_26 (by decide) ?_
  have hPc := hP.sub (ws' := [(h0, .inr (23, [v0, v1, v2, v3, v4, v5, v6, v7, v8]))]) [0] rfl
  have hDc := hD.sub (ws' := [(h0, .inr (23, [v0, v1, v2, v3, v4, v5, v6, v7, v8]))]) [0] (by decide) rfl
  have hKc := hK.sub (tys' := []) [] rfl
  have hFc := va_free (wc := [(h0, .inr (23, [v0, v1, v2, v3, v4, v5, v6, v7, v8]))]) hD hS hA [0] rfl
  refine va_calli (va_runV (As := [.int 1, .int 1]) (rest := []) ⟨hx, hb, hml, hown, hts⟩ (kX16_start l dC dI g H.size h0 v0 v1 v2 v3 v4 v5 v6 v7 v8 ) (cwV 2 hts gX16_word_X16_start rfl rfl rfl (by decide +kernel) ⟨Nat.le_of_ble_eq_true rfl, Nat.le_of_ble_eq_true rfl⟩) ⟨fun a U gg mk q => by obtain ⟨q0, q1, qP, qK, qD, qF⟩ := q; exact ⟨q0, q1, qP, va_K.moved (u := U) (U := U.calling gg mk a) (Vm.Alike.refl U.vm) qK, qD, ns_same qF⟩, va_recv hK hP (ci := 23) (q0 := 0) rfl rfl, fun U hU hW => ⟨rfl, by rw [hU], by rw [hU]; exact hPc, va_K.moved hW.alike hKc, hDc.weaken (fun _ _ _ _ => trivial), ns_call hF hS hFc hU hW⟩⟩ rfl rfl hl.1 rfl (lv_room (Nat.le_of_ble_eq_true rfl)) dX16_word_27 ⟨Nat.le_of_ble_eq_true rfl, Nat.le_of_ble_eq_true rfl⟩) hS (fun q _ h => hFc q h) hFc (fun r9 u t H1 locs ht hvm hw hB hz1 hk1 hS => ?_)
  obtain rfl := hw
  obtain ⟨hP1, hK1, hD1⟩ := hB
  rw [ht] at hP1
  have hK1 := va_K.moved hvm.symm hK1
  obtain ⟨hP, hD⟩ := va_join (wr := []) (w1 := [(h0, .inr (23, [.int 1, v1, v2, v3, v4, v5, v6, v7, v8]))]) hP hD [0] [] rfl rfl (by decide) (by decide) hk1 hFc hP1 hD1
  have hK := (hK.sub (tys' := []) [] rfl).app hK1
  generalize H1 = H at hP hS ⊢
  have hP : va_P (dC, dI) vwCl [(h0, .inr (23, [.int 1, v1, v2, v3, v4, v5, v6, v7, v8]))] H := hP
  have hD : va_D A [(h0, .inr (23, [.int 1, v1, v2, v3, v4, v5, v6, v7, v8]))] := hD
  have hK : va_K (dC, dI) vwCl [] s := hK
  refine W.widen (k := 0) (n := 0) (Nat.le_of_ble_eq_true rfl) (Nat.le_of_ble_eq_true rfl) ?_
  refine lv_if_ne (tgt := 45) hx hb dX16_word_30 (by decide) (fun c2 => ?_) (fun c2 => absurd c2 (by decide))
  refine lv_iconst (v := 0) hx hb dX16_word_45 (by decide) ?_
  have hP9 := hP.sub (ws' := [(h0, .inr (23, [.int 1, v1, v2, v3, v4, v5, v6, v7, v8]))]) [0] rfl
  have hD9 := hD.sub (ws' := [(h0, .inr (23, [.int 1, v1, v2, v3, v4, v5, v6, v7, v8]))]) [0] (by decide) rfl
  have hK9 := hK.sub (tys' := []) [] rfl
  refine W.widen (k := 0) (n := 0) (Nat.le_of_ble_eq_true rfl) (Nat.le_of_ble_eq_true rfl) ?_
  exact W.iret (v := 0) hx hb hr (fun t ht hW => ⟨⟨_, (), rfl, rfl, by rw [ht]; exact hP9, va_K.moved hW.alike hK9, hD9⟩, hS.F ht⟩) hS.2.2 dX16_word_46
set_option maxHeartbeats 4000000 in
set_option maxRecDepth 100000 in
theorem kX9_word_7 (l : Launch) (dC : Nat → ClassId) (dI : Nat → Nat → Nat) (g : Nat → Nat) (sz : Nat) (h0 : Nat) (x0 : Int32) (ex0 : (-2147483648 : Int) ≤ x0.toInt ∧ x0.toInt ≤ (-1 : Int)) (hlt : l.stackTraces = false) : vx_Met l yX9_word wsX9_word ({ frames := 6, cells := 1, slots := 6, locals := 82 }) (va_Pc [.ref h0, .int x0, .int 6] (fun U => U.heap.size = sz ∧ va_P (dC, dI) vwCl [] U.heap ∧ va_K (dC, dI) vwCl [] U ∧ va_D (fun _ => True) [] ∧ ns_F g (va_A [] sz) U U.heap)) (va_Qv (fun _ : Unit => False) (fun _ _ => True) (va_A [] sz)) (vx_X (fun _ : Unit => True) (fun E _ _ => E = "java/lang/IllegalArgumentException") (va_A [] sz)) 1 6 (va_A [] sz) := by
  refine vx_ofW (cc := cX9_word) (maxL := 4) (ret := (some .int)) (by decide) rfl ?_
  intro p e s m args below meth c s₁ B hml hnox hv
  obtain ⟨rfl, hsz, hP, hK, hD0, hF⟩ := hv
  have hx := B.exec
  have hb := B.bytes
  have hr := B.returns
  have hts := atoms_spec (ws := wsX9_word) B.pre
  have hown : s.vm.findClass RX9 = some m.cls := findClass_of_methodNamed B.named
  have hlocks := B.notSynchronized
  subst hsz
  have hD := hD0.self (sz := s.heap.size)
  generalize hAe : va_A [] s.heap.size = A at hD hF ⊢
  have hA : ∀ q : Nat, s.heap.size ≤ q → A q := fun q h => by rw [← hAe]; exact Or.inr h
  have hS : va_S A s.heap s.heap [] := va_S.rf
  have hP : va_P (dC, dI) vwCl [] s.heap := hP
  have hl := lv_entry ([.ref h0, .int x0, .int 6]) (n := 4) (Nat.le_of_ble_eq_true rfl)
  rw [lg_entry_eq]
  generalize (lg_sl ([.ref h0, .int x0, .int 6]) ++ List.replicate (4 - (lg_sl ([.ref h0, .int x0, .int 6])).length) Slot.unset).toArray = ls at hl ⊢
  have hl : lv_has ls 4 [(0, .ref h0), (1, .int x0), (2, .int 6)] := hl
  refine lv_iload_n hx hb dX9_word_0 rfl (lv_at hl 1 rfl) ?_
  refine lv_if_lt (tgt := 10) hx hb dX9_word_1 (by decide) (fun c1 => ?_) (fun c1 => absurd (Int32.lt_iff_toInt_lt.mpr (show x0.toInt < (0 : Int) by omega)) c1)
  exact vx_throwS hx hb hlt (text := "letter is 0 to 25") (sa := (g 10)) (names := ["java/lang/RuntimeException", "java/lang/Exception"]) hown (by decide) (by decide) (hts (.classLink RX9 100 "java/lang/IllegalArgumentException") (by decide +kernel)) (hts (.initialized "java/lang/IllegalArgumentException") (by decide +kernel)) (ns_f20 hF) (vx_hat (B := [.declares ⟨"java/lang/RuntimeException", "<init>", "(Ljava/lang/String;)V"⟩, .declares ⟨"java/lang/Exception", "<init>", "(Ljava/lang/String;)V"⟩, .declares ⟨"java/lang/Throwable", "<init>", "(Ljava/lang/String;)V"⟩, .castable "java/lang/IllegalArgumentException" "java/lang/IllegalArgumentException"]) (fun w9 h9 => hts w9 (List.mem_cons_of_mem _ ((fun h9 => List.mem_append_left _ (List.mem_append_left _ (List.mem_append_right _ h9))) h9))) (by decide +kernel) (vx_c (va_Nw.use rfl (ns_f12 hF)) (vx_c (va_Nw.use rfl (ns_f13 hF)) (vx_c (va_Nw.use rfl (ns_f14 hF)) (vx_c (va_Nw.use rfl (ns_f11 hF)) vx_n))))) (by decide +kernel) (ns_f17 hF) (ns_f18 hF) hS (by rw [hml]; exact hl.1) dX9_word_10 dX9_word_13 dX9_word_14 dX9_word_16 dX9_word_19 (fun x hx => (hnox x hx).elim) (Nat.le_of_ble_eq_true rfl) (Nat.le_of_ble_eq_true rfl) (Nat.le_of_ble_eq_true rfl) (Nat.le_of_ble_eq_true rfl) hlocks (fun t9 hal hsz9 hk9 => ⟨(), trivial, rfl, Nat.le_trans hS.1 hsz9, fun q hq1 hq2 => (hk9 q (Nat.lt_of_lt_of_le hq1 hS.1)).trans (hS.2.1 q hq1 hq2)⟩) hS.2.2 (Nat.le_of_ble_eq_true rfl) (Nat.le_of_ble_eq_true rfl)
set_option maxHeartbeats 4000000 in
set_option maxRecDepth 100000 in
theorem kL_word_7 (l : Launch) (dC : Nat → ClassId) (dI : Nat → Nat → Nat) (g : Nat → Nat) (sz : Nat) (h0 : Nat) (x0 : Int32) (h1 : Nat) (v0 : Value) (v1 : Value) (v2 : Value) (v3 : Value) (v4 : Value) (v5 : Value) (v6 : Value) (v7 : Value) (v8 : Value) (v9 : Value) (v10 : Value) (v11 : Value) (v12 : Value) (v13 : Value) (v14 : Value) (v15 : Value) (ex0 : (-2147483648 : Int) ≤ x0.toInt ∧ x0.toInt ≤ (-1 : Int)) (hlt : l.stackTraces = false) : Met l yL_word wsL_word ({ frames := 7, cells := 1, slots := 6, locals := 105 }) (va_Pc [.ref h0, .int x0, .int 6, .ref h1] (fun U => U.heap.size = sz ∧ va_P (dC, dI) vwCl [(h0, .inr (16, [v0, v1, v2, v3, v4, v5, v6, v7, v8, v9, v10, v11, v12, v13, v14, v15]))] U.heap ∧ va_K (dC, dI) vwCl [] U ∧ va_D (fun _ => True) [(h0, .inr (16, [v0, v1, v2, v3, v4, v5, v6, v7, v8, v9, v10, v11, v12, v13, v14, v15]))] ∧ ns_F g (va_A [(h0, .inr (16, [v0, v1, v2, v3, v4, v5, v6, v7, v8, v9, v10, v11, v12, v13, v14, v15]))] sz) U U.heap)) (va_Qi (fun (r : Int32) (_ : Unit) => r = 1) (fun _ t => va_P (dC, dI) vwCl [(h0, .inr (16, [v0, v1, v2, v3, v4, v5, v6, v7, v8, v9, v10, v11, v12, v13, v14, v15]))] t.heap ∧ va_K (dC, dI) vwCl [] t ∧ va_D (va_A [(h0, .inr (16, [v0, v1, v2, v3, v4, v5, v6, v7, v8, v9, v10, v11, v12, v13, v14, v15]))] sz) [(h0, .inr (16, [v0, v1, v2, v3, v4, v5, v6, v7, v8, v9, v10, v11, v12, v13, v14, v15]))]) (va_A [(h0, .inr (16, [v0, v1, v2, v3, v4, v5, v6, v7, v8, v9, v10, v11, v12, v13, v14, v15]))] sz)) 1 6 (va_A [(h0, .inr (16, [v0, v1, v2, v3, v4, v5, v6, v7, v8, v9, v10, v11, v12, v13, v14, v15]))] sz) := by
  refine va_MetW (cc := cL_word) (maxL := 5) (ret := (some .int)) (hh := [(0, 11, 14, 19), (0, 11, 18, 21)]) (by decide) rfl ?_
  intro p e s m args below meth c s₁ B hml hv
  obtain ⟨rfl, hsz, hP, hK, hD0, hF⟩ := hv
  have hx := B.exec
  have hb := B.bytes
  have hr := B.returns
  have hts := atoms_spec (ws := wsL_word) B.pre
  have hown : s.vm.findClass RL = some m.cls := findClass_of_methodNamed B.named
  have hlocks := B.notSynchronized
  have htab : c.exceptionTable.toList = [⟨0, 11, 14, 19⟩, ⟨0, 11, 18, 21⟩] := vx_table B (hts _ List.mem_cons_self)
  subst hsz
  have hD := hD0.self (sz := s.heap.size)
  generalize hAe : va_A [(h0, .inr (16, [v0, v1, v2, v3, v4, v5, v6, v7, v8, v9, v10, v11, v12, v13, v14, v15]))] s.heap.size = A at hD hF ⊢
  have hA : ∀ q : Nat, s.heap.size ≤ q → A q := fun q h => by rw [← hAe]; exact Or.inr h
  have hS : va_S A s.heap s.heap [] := va_S.rf
  have hP : va_P (dC, dI) vwCl [(h0, .inr (16, [v0, v1, v2, v3, v4, v5, v6, v7, v8, v9, v10, v11, v12, v13, v14, v15]))] s.heap := hP
  have hl := lv_entry ([.ref h0, .int x0, .int 6, .ref h1]) (n := 5) (Nat.le_of_ble_eq_true rfl)
  rw [lg_entry_eq]
  generalize (lg_sl ([.ref h0, .int x0, .int 6, .ref h1]) ++ List.replicate (5 - (lg_sl ([.ref h0, .int x0, .int 6, .ref h1])).length) Slot.unset).toArray = ls at hl ⊢
  have hl : lv_has ls 5 [(0, .ref h0), (1, .int x0), (2, .int 6), (3, .ref h1)] := hl
  refine lv_aload_n hx hb dL_word_0 rfl (lv_at hl 3 rfl) ?_
  refine lv_aload_n hx hb dL_word_1 rfl (lv_at hl 0 rfl) ?_
  refine lv_iload_n hx hb dL_word_2 rfl (lv_at hl 1 rfl) ?_
  refine lv_iload_n hx hb dL_word_3 rfl (lv_at hl 2 rfl) ?_
  have hPc := hP.sub (ws' := []) [] rfl
  have hDc := hD.sub (ws' := []) [] (by decide) rfl
  have hKc := hK.sub (tys' := []) [] rfl
  have hFc := va_free (wc := []) hD hS hA [] rfl
  refine vx_callv (vx_runV (As := [.int x0, .int 6]) (rest := [.ref h1]) ⟨hx, hb, hml, hown, hts⟩ (kX9_word_7 l dC dI g s.heap.size h0 x0 ⟨by omega, by omega⟩ hlt) (cwV 2 hts gL_word_X9_word rfl rfl rfl (by decide +kernel) ⟨Nat.le_of_ble_eq_true rfl, Nat.le_of_ble_eq_true rfl⟩) ⟨fun a U gg mk q => by obtain ⟨q0, q1, qP, qK, qD, qF⟩ := q; exact ⟨q0, q1, qP, va_K.moved (u := U) (U := U.calling gg mk a) (Vm.Alike.refl U.vm) qK, qD, ns_same qF⟩, va_recv hK hP (ci := 16) (q0 := 0) rfl rfl, fun U hU hW => ⟨rfl, by rw [hU], by rw [hU]; exact hPc, va_K.moved hW.alike hKc, hDc.weaken (fun _ _ _ _ => trivial), ns_call hF hS hFc hU hW⟩⟩ rfl rfl hl.1 rfl (lv_room (Nat.le_of_ble_eq_true rfl)) dL_word_4 ⟨Nat.le_of_ble_eq_true rfl, Nat.le_of_ble_eq_true rfl⟩) hS (fun q _ h => hFc q h) hFc (fun q _ h => hFc q h) (fun E ce q9 u t H1 locs ht hvm hw hB hz1 hk1 hS hc1 hc2 hc3 => ?_) (fun _ _ _ _ _ _ hw _ _ _ _ => False.elim hw)
  obtain rfl : E = "java/lang/IllegalArgumentException" := hB
  obtain ⟨hP, hD⟩ := va_join (wr := [(h0, .inr (16, [v0, v1, v2, v3, v4, v5, v6, v7, v8, v9, v10, v11, v12, v13, v14, v15]))]) (w1 := []) hP hD [] [0] rfl rfl (by decide) (by decide) hk1 hFc (fun k q h => by simp at h) ⟨fun i j p q h => by simp at h, fun k q h => by simp at h⟩
  have hK := hK.sub (tys' := []) [] rfl
  generalize H1 = H at hP hS hc1 ⊢
  have hP : va_P (dC, dI) vwCl [(h0, .inr (16, [v0, v1, v2, v3, v4, v5, v6, v7, v8, v9, v10, v11, v12, v13, v14, v15]))] H := hP
  have hD : va_D A [(h0, .inr (16, [v0, v1, v2, v3, v4, v5, v6, v7, v8, v9, v10, v11, v12, v13, v14, v15]))] := hD
  have hK : va_K (dC, dI) vwCl [] s := hK
  refine vx_widen (k := 1) (n := 6) (Nat.le_of_ble_eq_true rfl) (Nat.le_of_ble_eq_true rfl) ?_
  refine vx_catch hown [] ⟨0, 11, 14, 19⟩ [⟨0, 11, 18, 21⟩] htab (fun z hz => by simp at hz) (by decide) (by decide) (hts (.classLink RL 19 "java/lang/IllegalArgumentException") (by decide +kernel)) (va_Nw.use rfl (ns_f11 hF)) hc1 hc2 hc3 ?_
  refine W.eq (g2 := F0 m 14 ls [.ref q9]) rfl ?_
  refine lv_astore (lv' := [(4, .ref q9), (0, .ref h0), (1, .int x0), (2, .int 6), (3, .ref h1)]) hx hb dL_word_14 hl (by decide) rfl (fun ls hl => ?_)
  refine lv_iconst (v := 1) hx hb dL_word_16 (by decide) ?_
  have hP9 := hP.sub (ws' := [(h0, .inr (16, [v0, v1, v2, v3, v4, v5, v6, v7, v8, v9, v10, v11, v12, v13, v14, v15]))]) [0] rfl
  have hD9 := hD.sub (ws' := [(h0, .inr (16, [v0, v1, v2, v3, v4, v5, v6, v7, v8, v9, v10, v11, v12, v13, v14, v15]))]) [0] (by decide) rfl
  have hK9 := hK.sub (tys' := []) [] rfl
  refine W.widen (k := 1) (n := 6) (Nat.le_of_ble_eq_true rfl) (Nat.le_of_ble_eq_true rfl) ?_
  exact W.iret (v := 1) hx hb hr (fun t ht hW => ⟨⟨_, (), rfl, rfl, by rw [ht]; exact hP9, va_K.moved hW.alike hK9, hD9⟩, hS.F ht⟩) hS.2.2 dL_word_17
set_option maxHeartbeats 4000000 in
set_option maxRecDepth 100000 in
theorem kX16_word_7 (l : Launch) (dC : Nat → ClassId) (dI : Nat → Nat → Nat) (g : Nat → Nat) (sz : Nat) (h0 : Nat) (x0 : Int32) (v0 : Value) (v1 : Value) (v2 : Value) (v3 : Value) (v4 : Value) (v5 : Value) (v6 : Value) (v7 : Value) (v8 : Value) (ex0 : (-2147483648 : Int) ≤ x0.toInt ∧ x0.toInt ≤ (-1 : Int)) : Met l yX16_word wsX16_word ({ frames := 2, cells := 0, slots := 0, locals := 44 }) (va_Pc [.ref h0, .int x0, .int 6] (fun U => U.heap.size = sz ∧ va_P (dC, dI) vwCl [(h0, .inr (23, [v0, v1, v2, v3, v4, v5, v6, v7, v8]))] U.heap ∧ va_K (dC, dI) vwCl [] U ∧ va_D (fun _ => True) [(h0, .inr (23, [v0, v1, v2, v3, v4, v5, v6, v7, v8]))] ∧ ns_F g (va_A [(h0, .inr (23, [v0, v1, v2, v3, v4, v5, v6, v7, v8]))] sz) U U.heap)) (va_Qi (fun (r : Int32) (_ : Unit) => r = 0) (fun _ t => va_P (dC, dI) vwCl [(h0, .inr (23, [.int 1, v1, v2, v3, v4, v5, v6, v7, v8]))] t.heap ∧ va_K (dC, dI) vwCl [] t ∧ va_D (va_A [(h0, .inr (23, [v0, v1, v2, v3, v4, v5, v6, v7, v8]))] sz) [(h0, .inr (23, [.int 1, v1, v2, v3, v4, v5, v6, v7, v8]))]) (va_A [(h0, .inr (23, [v0, v1, v2, v3, v4, v5, v6, v7, v8]))] sz)) 0 0 (va_A [(h0, .inr (23, [v0, v1, v2, v3, v4, v5, v6, v7, v8]))] sz) := by
  refine Met.ofW (cc := cX16_word) (maxL := 5) (ret := (some .int)) (by decide) rfl ?_
  intro p e s m args below meth c s₁ B hml hv
  obtain ⟨rfl, hsz, hP, hK, hD0, hF⟩ := hv
  have hx := B.exec
  have hb := B.bytes
  have hr := B.returns
  have hts := atoms_spec (ws := wsX16_word) B.pre
  have hown : s.vm.findClass RX16 = some m.cls := findClass_of_methodNamed B.named
  have hlocks := B.notSynchronized
  subst hsz
  have hD := hD0.self (sz := s.heap.size)
  generalize hAe : va_A [(h0, .inr (23, [v0, v1, v2, v3, v4, v5, v6, v7, v8]))] s.heap.size = A at hD hF ⊢
  have hA : ∀ q : Nat, s.heap.size ≤ q → A q := fun q h => by rw [← hAe]; exact Or.inr h
  have hS : va_S A s.heap s.heap [] := va_S.rf
  have hP : va_P (dC, dI) vwCl [(h0, .inr (23, [v0, v1, v2, v3, v4, v5, v6, v7, v8]))] s.heap := hP
  have hl := lv_entry ([.ref h0, .int x0, .int 6]) (n := 5) (Nat.le_of_ble_eq_true rfl)
  rw [lg_entry_eq]
  generalize (lg_sl ([.ref h0, .int x0, .int 6]) ++ List.replicate (5 - (lg_sl ([.ref h0, .int x0, .int 6])).length) Slot.unset).toArray = ls at hl ⊢
  have hl : lv_has ls 5 [(0, .ref h0), (1, .int x0), (2, .int 6)] := hl
  refine lv_aload_n hx hb dX16_word_0 rfl (lv_at hl 0 rfl) ?_
  refine lv_iload_n hx hb dX16_word_1 rfl (lv_at hl 1 rfl) ?_
  refine lv_iconst (v := 0) hx hb dX16_word_2 (by decide) ?_
  refine lv_bipush (v := 25) hx hb dX16_word_3 (by decide) ?_
  have hPc := hP.sub (ws' := []) [] rfl
  have hDc := hD.sub (ws' := []) [] (by decide) rfl
  have hKc := hK.sub (tys' := []) [] rfl
  have hFc := va_free (wc := []) hD hS hA [] rfl
  refine va_calli (va_runS (As := [.int x0, .int 0, .int 25]) (rest := [.ref h0]) ⟨hx, hb, hml, hown, hts⟩ (kX16_isIn l dC dI g s.heap.size x0 ⟨by omega, by omega⟩) (va_cwS 3 hts gX16_word_X16_isIn rfl rfl rfl (by decide +kernel) ⟨Nat.le_of_ble_eq_true rfl, Nat.le_of_ble_eq_true rfl⟩) ⟨fun a U gg mk q => by obtain ⟨q0, q1, qP, qK, qD, qF⟩ := q; exact ⟨q0, q1, qP, va_K.moved (u := U) (U := U.calling gg mk a) (Vm.Alike.refl U.vm) qK, qD, ns_same qF⟩, fun U hU hW => ⟨rfl, by rw [hU], by rw [hU]; exact hPc, va_K.moved hW.alike hKc, hDc.weaken (fun _ _ _ _ => trivial), ns_call hF hS hFc hU hW⟩⟩ rfl rfl hl.1 rfl (lv_room (Nat.le_of_ble_eq_true rfl)) dX16_word_5 ⟨Nat.le_of_ble_eq_true rfl, Nat.le_of_ble_eq_true rfl⟩) hS (fun q _ h => hFc q h) hFc (fun r9 u t H1 locs ht hvm hw hB hz1 hk1 hS => ?_)
  obtain rfl := hw
  obtain ⟨hP1, hK1, hD1⟩ := hB
  rw [ht] at hP1
  have hK1 := va_K.moved hvm.symm hK1
  obtain ⟨hP, hD⟩ := va_join (wr := [(h0, .inr (23, [v0, v1, v2, v3, v4, v5, v6, v7, v8]))]) (w1 := []) hP hD [] [0] rfl rfl (by decide) (by decide) hk1 hFc hP1 hD1
  have hK := (hK.sub (tys' := []) [] rfl).app hK1
  generalize H1 = H at hP hS ⊢
  have hP : va_P (dC, dI) vwCl [(h0, .inr (23, [v0, v1, v2, v3, v4, v5, v6, v7, v8]))] H := hP
  have hD : va_D A [(h0, .inr (23, [v0, v1, v2, v3, v4, v5, v6, v7, v8]))] := hD
  have hK : va_K (dC, dI) vwCl [] s := hK
  refine W.widen (k := 0) (n := 0) (Nat.le_of_ble_eq_true rfl) (Nat.le_of_ble_eq_true rfl) ?_
  refine lv_if_eq (tgt := 21) hx hb dX16_word_8 (by decide) (fun c1 => ?_) (fun c1 => absurd (by decide) c1)
  refine lv_iconst (v := 1) hx hb dX16_word_21 (by decide) ?_
  refine lv_goto (tgt := 26) hx hb dX16_word_22 (by decide) ?_
  refine lv_iconst (v := 1) hx hb dX16_word_26 (by decide) ?_
  have hPc := hP.sub (ws' := [(h0, .inr (23, [v0, v1, v2, v3, v4, v5, v6, v7, v8]))]) [0] rfl
  have hDc := hD.sub (ws' := [(h0, .inr (23, [v0, v1, v2, v3, v4, v5, v6, v7, v8]))]) [0] (by decide) rfl
  have hKc := hK.sub (tys' := []) [] rfl
  have hFc := va_free (wc := [(h0, .inr (23, [v0, v1, v2, v3, v4, v5, v6, v7, v8]))]) hD hS hA [0] rfl
  refine va_calli (va_runV (As := [.int 1, .int 1]) (rest := []) ⟨hx, hb, hml, hown, hts⟩ (kX16_start l dC dI g H.size h0 v0 v1 v2 v3 v4 v5 v6 v7 v8 ) (cwV 2 hts gX16_word_X16_start rfl rfl rfl (by decide +kernel) ⟨Nat.le_of_ble_eq_true rfl, Nat.le_of_ble_eq_true rfl⟩) ⟨fun a U gg mk q => by obtain ⟨q0, q1, qP, qK, qD, qF⟩ := q; exact ⟨q0, q1, qP, va_K.moved (u := U) (U := U.calling gg mk a) (Vm.Alike.refl U.vm) qK, qD, ns_same qF⟩, va_recv hK hP (ci := 23) (q0 := 0) rfl rfl, fun U hU hW => ⟨rfl, by rw [hU], by rw [hU]; exact hPc, va_K.moved hW.alike hKc, hDc.weaken (fun _ _ _ _ => trivial), ns_call hF hS hFc hU hW⟩⟩ rfl rfl hl.1 rfl (lv_room (Nat.le_of_ble_eq_true rfl)) dX16_word_27 ⟨Nat.le_of_ble_eq_true rfl, Nat.le_of_ble_eq_true rfl⟩) hS (fun q _ h => hFc q h) hFc (fun r9 u t H1 locs ht hvm hw hB hz1 hk1 hS => ?_)
  obtain rfl := hw
  obtain ⟨hP1, hK1, hD1⟩ := hB
  rw [ht] at hP1
  have hK1 := va_K.moved hvm.symm hK1
  obtain ⟨hP, hD⟩ := va_join (wr := []) (w1 := [(h0, .inr (23, [.int 1, v1, v2, v3, v4, v5, v6, v7, v8]))]) hP hD [0] [] rfl rfl (by decide) (by decide) hk1 hFc hP1 hD1
  have hK := (hK.sub (tys' := []) [] rfl).app hK1
  generalize H1 = H at hP hS ⊢
  have hP : va_P (dC, dI) vwCl [(h0, .inr (23, [.int 1, v1, v2, v3, v4, v5, v6, v7, v8]))] H := hP
  have hD : va_D A [(h0, .inr (23, [.int 1, v1, v2, v3, v4, v5, v6, v7, v8]))] := hD
  have hK : va_K (dC, dI) vwCl [] s := hK
  refine W.widen (k := 0) (n := 0) (Nat.le_of_ble_eq_true rfl) (Nat.le_of_ble_eq_true rfl) ?_
  refine lv_if_ne (tgt := 45) hx hb dX16_word_30 (by decide) (fun c2 => ?_) (fun c2 => absurd c2 (by decide))
  refine lv_iconst (v := 0) hx hb dX16_word_45 (by decide) ?_
  have hP9 := hP.sub (ws' := [(h0, .inr (23, [.int 1, v1, v2, v3, v4, v5, v6, v7, v8]))]) [0] rfl
  have hD9 := hD.sub (ws' := [(h0, .inr (23, [.int 1, v1, v2, v3, v4, v5, v6, v7, v8]))]) [0] (by decide) rfl
  have hK9 := hK.sub (tys' := []) [] rfl
  refine W.widen (k := 0) (n := 0) (Nat.le_of_ble_eq_true rfl) (Nat.le_of_ble_eq_true rfl) ?_
  exact W.iret (v := 0) hx hb hr (fun t ht hW => ⟨⟨_, (), rfl, rfl, by rw [ht]; exact hP9, va_K.moved hW.alike hK9, hD9⟩, hS.F ht⟩) hS.2.2 dX16_word_46
set_option maxHeartbeats 4000000 in
set_option maxRecDepth 100000 in
theorem kX9_word_8 (l : Launch) (dC : Nat → ClassId) (dI : Nat → Nat → Nat) (g : Nat → Nat) (sz : Nat) (h0 : Nat) (x0 : Int32) (ex0 : (-2147483648 : Int) ≤ x0.toInt ∧ x0.toInt ≤ (-1 : Int)) (hlt : l.stackTraces = false) : vx_Met l yX9_word wsX9_word ({ frames := 6, cells := 1, slots := 6, locals := 82 }) (va_Pc [.ref h0, .int x0, .int 7] (fun U => U.heap.size = sz ∧ va_P (dC, dI) vwCl [] U.heap ∧ va_K (dC, dI) vwCl [] U ∧ va_D (fun _ => True) [] ∧ ns_F g (va_A [] sz) U U.heap)) (va_Qv (fun _ : Unit => False) (fun _ _ => True) (va_A [] sz)) (vx_X (fun _ : Unit => True) (fun E _ _ => E = "java/lang/IllegalArgumentException") (va_A [] sz)) 1 6 (va_A [] sz) := by
  refine vx_ofW (cc := cX9_word) (maxL := 4) (ret := (some .int)) (by decide) rfl ?_
  intro p e s m args below meth c s₁ B hml hnox hv
  obtain ⟨rfl, hsz, hP, hK, hD0, hF⟩ := hv
  have hx := B.exec
  have hb := B.bytes
  have hr := B.returns
  have hts := atoms_spec (ws := wsX9_word) B.pre
  have hown : s.vm.findClass RX9 = some m.cls := findClass_of_methodNamed B.named
  have hlocks := B.notSynchronized
  subst hsz
  have hD := hD0.self (sz := s.heap.size)
  generalize hAe : va_A [] s.heap.size = A at hD hF ⊢
  have hA : ∀ q : Nat, s.heap.size ≤ q → A q := fun q h => by rw [← hAe]; exact Or.inr h
  have hS : va_S A s.heap s.heap [] := va_S.rf
  have hP : va_P (dC, dI) vwCl [] s.heap := hP
  have hl := lv_entry ([.ref h0, .int x0, .int 7]) (n := 4) (Nat.le_of_ble_eq_true rfl)
  rw [lg_entry_eq]
  generalize (lg_sl ([.ref h0, .int x0, .int 7]) ++ List.replicate (4 - (lg_sl ([.ref h0, .int x0, .int 7])).length) Slot.unset).toArray = ls at hl ⊢
  have hl : lv_has ls 4 [(0, .ref h0), (1, .int x0), (2, .int 7)] := hl
  refine lv_iload_n hx hb dX9_word_0 rfl (lv_at hl 1 rfl) ?_
  refine lv_if_lt (tgt := 10) hx hb dX9_word_1 (by decide) (fun c1 => ?_) (fun c1 => absurd (Int32.lt_iff_toInt_lt.mpr (show x0.toInt < (0 : Int) by omega)) c1)
  exact vx_throwS hx hb hlt (text := "letter is 0 to 25") (sa := (g 10)) (names := ["java/lang/RuntimeException", "java/lang/Exception"]) hown (by decide) (by decide) (hts (.classLink RX9 100 "java/lang/IllegalArgumentException") (by decide +kernel)) (hts (.initialized "java/lang/IllegalArgumentException") (by decide +kernel)) (ns_f20 hF) (vx_hat (B := [.declares ⟨"java/lang/RuntimeException", "<init>", "(Ljava/lang/String;)V"⟩, .declares ⟨"java/lang/Exception", "<init>", "(Ljava/lang/String;)V"⟩, .declares ⟨"java/lang/Throwable", "<init>", "(Ljava/lang/String;)V"⟩, .castable "java/lang/IllegalArgumentException" "java/lang/IllegalArgumentException"]) (fun w9 h9 => hts w9 (List.mem_cons_of_mem _ ((fun h9 => List.mem_append_left _ (List.mem_append_left _ (List.mem_append_right _ h9))) h9))) (by decide +kernel) (vx_c (va_Nw.use rfl (ns_f12 hF)) (vx_c (va_Nw.use rfl (ns_f13 hF)) (vx_c (va_Nw.use rfl (ns_f14 hF)) (vx_c (va_Nw.use rfl (ns_f11 hF)) vx_n))))) (by decide +kernel) (ns_f17 hF) (ns_f18 hF) hS (by rw [hml]; exact hl.1) dX9_word_10 dX9_word_13 dX9_word_14 dX9_word_16 dX9_word_19 (fun x hx => (hnox x hx).elim) (Nat.le_of_ble_eq_true rfl) (Nat.le_of_ble_eq_true rfl) (Nat.le_of_ble_eq_true rfl) (Nat.le_of_ble_eq_true rfl) hlocks (fun t9 hal hsz9 hk9 => ⟨(), trivial, rfl, Nat.le_trans hS.1 hsz9, fun q hq1 hq2 => (hk9 q (Nat.lt_of_lt_of_le hq1 hS.1)).trans (hS.2.1 q hq1 hq2)⟩) hS.2.2 (Nat.le_of_ble_eq_true rfl) (Nat.le_of_ble_eq_true rfl)
set_option maxHeartbeats 4000000 in
set_option maxRecDepth 100000 in
theorem kL_word_8 (l : Launch) (dC : Nat → ClassId) (dI : Nat → Nat → Nat) (g : Nat → Nat) (sz : Nat) (h0 : Nat) (x0 : Int32) (h1 : Nat) (v0 : Value) (v1 : Value) (v2 : Value) (v3 : Value) (v4 : Value) (v5 : Value) (v6 : Value) (v7 : Value) (v8 : Value) (v9 : Value) (v10 : Value) (v11 : Value) (v12 : Value) (v13 : Value) (v14 : Value) (v15 : Value) (ex0 : (-2147483648 : Int) ≤ x0.toInt ∧ x0.toInt ≤ (-1 : Int)) (hlt : l.stackTraces = false) : Met l yL_word wsL_word ({ frames := 7, cells := 1, slots := 6, locals := 105 }) (va_Pc [.ref h0, .int x0, .int 7, .ref h1] (fun U => U.heap.size = sz ∧ va_P (dC, dI) vwCl [(h0, .inr (16, [v0, v1, v2, v3, v4, v5, v6, v7, v8, v9, v10, v11, v12, v13, v14, v15]))] U.heap ∧ va_K (dC, dI) vwCl [] U ∧ va_D (fun _ => True) [(h0, .inr (16, [v0, v1, v2, v3, v4, v5, v6, v7, v8, v9, v10, v11, v12, v13, v14, v15]))] ∧ ns_F g (va_A [(h0, .inr (16, [v0, v1, v2, v3, v4, v5, v6, v7, v8, v9, v10, v11, v12, v13, v14, v15]))] sz) U U.heap)) (va_Qi (fun (r : Int32) (_ : Unit) => r = 1) (fun _ t => va_P (dC, dI) vwCl [(h0, .inr (16, [v0, v1, v2, v3, v4, v5, v6, v7, v8, v9, v10, v11, v12, v13, v14, v15]))] t.heap ∧ va_K (dC, dI) vwCl [] t ∧ va_D (va_A [(h0, .inr (16, [v0, v1, v2, v3, v4, v5, v6, v7, v8, v9, v10, v11, v12, v13, v14, v15]))] sz) [(h0, .inr (16, [v0, v1, v2, v3, v4, v5, v6, v7, v8, v9, v10, v11, v12, v13, v14, v15]))]) (va_A [(h0, .inr (16, [v0, v1, v2, v3, v4, v5, v6, v7, v8, v9, v10, v11, v12, v13, v14, v15]))] sz)) 1 6 (va_A [(h0, .inr (16, [v0, v1, v2, v3, v4, v5, v6, v7, v8, v9, v10, v11, v12, v13, v14, v15]))] sz) := by
  refine va_MetW (cc := cL_word) (maxL := 5) (ret := (some .int)) (hh := [(0, 11, 14, 19), (0, 11, 18, 21)]) (by decide) rfl ?_
  intro p e s m args below meth c s₁ B hml hv
  obtain ⟨rfl, hsz, hP, hK, hD0, hF⟩ := hv
  have hx := B.exec
  have hb := B.bytes
  have hr := B.returns
  have hts := atoms_spec (ws := wsL_word) B.pre
  have hown : s.vm.findClass RL = some m.cls := findClass_of_methodNamed B.named
  have hlocks := B.notSynchronized
  have htab : c.exceptionTable.toList = [⟨0, 11, 14, 19⟩, ⟨0, 11, 18, 21⟩] := vx_table B (hts _ List.mem_cons_self)
  subst hsz
  have hD := hD0.self (sz := s.heap.size)
  generalize hAe : va_A [(h0, .inr (16, [v0, v1, v2, v3, v4, v5, v6, v7, v8, v9, v10, v11, v12, v13, v14, v15]))] s.heap.size = A at hD hF ⊢
  have hA : ∀ q : Nat, s.heap.size ≤ q → A q := fun q h => by rw [← hAe]; exact Or.inr h
  have hS : va_S A s.heap s.heap [] := va_S.rf
  have hP : va_P (dC, dI) vwCl [(h0, .inr (16, [v0, v1, v2, v3, v4, v5, v6, v7, v8, v9, v10, v11, v12, v13, v14, v15]))] s.heap := hP
  have hl := lv_entry ([.ref h0, .int x0, .int 7, .ref h1]) (n := 5) (Nat.le_of_ble_eq_true rfl)
  rw [lg_entry_eq]
  generalize (lg_sl ([.ref h0, .int x0, .int 7, .ref h1]) ++ List.replicate (5 - (lg_sl ([.ref h0, .int x0, .int 7, .ref h1])).length) Slot.unset).toArray = ls at hl ⊢
  have hl : lv_has ls 5 [(0, .ref h0), (1, .int x0), (2, .int 7), (3, .ref h1)] := hl
  refine lv_aload_n hx hb dL_word_0 rfl (lv_at hl 3 rfl) ?_
  refine lv_aload_n hx hb dL_word_1 rfl (lv_at hl 0 rfl) ?_
  refine lv_iload_n hx hb dL_word_2 rfl (lv_at hl 1 rfl) ?_
  refine lv_iload_n hx hb dL_word_3 rfl (lv_at hl 2 rfl) ?_
  have hPc := hP.sub (ws' := []) [] rfl
  have hDc := hD.sub (ws' := []) [] (by decide) rfl
  have hKc := hK.sub (tys' := []) [] rfl
  have hFc := va_free (wc := []) hD hS hA [] rfl
  refine vx_callv (vx_runV (As := [.int x0, .int 7]) (rest := [.ref h1]) ⟨hx, hb, hml, hown, hts⟩ (kX9_word_8 l dC dI g s.heap.size h0 x0 ⟨by omega, by omega⟩ hlt) (cwV 2 hts gL_word_X9_word rfl rfl rfl (by decide +kernel) ⟨Nat.le_of_ble_eq_true rfl, Nat.le_of_ble_eq_true rfl⟩) ⟨fun a U gg mk q => by obtain ⟨q0, q1, qP, qK, qD, qF⟩ := q; exact ⟨q0, q1, qP, va_K.moved (u := U) (U := U.calling gg mk a) (Vm.Alike.refl U.vm) qK, qD, ns_same qF⟩, va_recv hK hP (ci := 16) (q0 := 0) rfl rfl, fun U hU hW => ⟨rfl, by rw [hU], by rw [hU]; exact hPc, va_K.moved hW.alike hKc, hDc.weaken (fun _ _ _ _ => trivial), ns_call hF hS hFc hU hW⟩⟩ rfl rfl hl.1 rfl (lv_room (Nat.le_of_ble_eq_true rfl)) dL_word_4 ⟨Nat.le_of_ble_eq_true rfl, Nat.le_of_ble_eq_true rfl⟩) hS (fun q _ h => hFc q h) hFc (fun q _ h => hFc q h) (fun E ce q9 u t H1 locs ht hvm hw hB hz1 hk1 hS hc1 hc2 hc3 => ?_) (fun _ _ _ _ _ _ hw _ _ _ _ => False.elim hw)
  obtain rfl : E = "java/lang/IllegalArgumentException" := hB
  obtain ⟨hP, hD⟩ := va_join (wr := [(h0, .inr (16, [v0, v1, v2, v3, v4, v5, v6, v7, v8, v9, v10, v11, v12, v13, v14, v15]))]) (w1 := []) hP hD [] [0] rfl rfl (by decide) (by decide) hk1 hFc (fun k q h => by simp at h) ⟨fun i j p q h => by simp at h, fun k q h => by simp at h⟩
  have hK := hK.sub (tys' := []) [] rfl
  generalize H1 = H at hP hS hc1 ⊢
  have hP : va_P (dC, dI) vwCl [(h0, .inr (16, [v0, v1, v2, v3, v4, v5, v6, v7, v8, v9, v10, v11, v12, v13, v14, v15]))] H := hP
  have hD : va_D A [(h0, .inr (16, [v0, v1, v2, v3, v4, v5, v6, v7, v8, v9, v10, v11, v12, v13, v14, v15]))] := hD
  have hK : va_K (dC, dI) vwCl [] s := hK
  refine vx_widen (k := 1) (n := 6) (Nat.le_of_ble_eq_true rfl) (Nat.le_of_ble_eq_true rfl) ?_
  refine vx_catch hown [] ⟨0, 11, 14, 19⟩ [⟨0, 11, 18, 21⟩] htab (fun z hz => by simp at hz) (by decide) (by decide) (hts (.classLink RL 19 "java/lang/IllegalArgumentException") (by decide +kernel)) (va_Nw.use rfl (ns_f11 hF)) hc1 hc2 hc3 ?_
  refine W.eq (g2 := F0 m 14 ls [.ref q9]) rfl ?_
  refine lv_astore (lv' := [(4, .ref q9), (0, .ref h0), (1, .int x0), (2, .int 7), (3, .ref h1)]) hx hb dL_word_14 hl (by decide) rfl (fun ls hl => ?_)
  refine lv_iconst (v := 1) hx hb dL_word_16 (by decide) ?_
  have hP9 := hP.sub (ws' := [(h0, .inr (16, [v0, v1, v2, v3, v4, v5, v6, v7, v8, v9, v10, v11, v12, v13, v14, v15]))]) [0] rfl
  have hD9 := hD.sub (ws' := [(h0, .inr (16, [v0, v1, v2, v3, v4, v5, v6, v7, v8, v9, v10, v11, v12, v13, v14, v15]))]) [0] (by decide) rfl
  have hK9 := hK.sub (tys' := []) [] rfl
  refine W.widen (k := 1) (n := 6) (Nat.le_of_ble_eq_true rfl) (Nat.le_of_ble_eq_true rfl) ?_
  exact W.iret (v := 1) hx hb hr (fun t ht hW => ⟨⟨_, (), rfl, rfl, by rw [ht]; exact hP9, va_K.moved hW.alike hK9, hD9⟩, hS.F ht⟩) hS.2.2 dL_word_17
set_option maxHeartbeats 4000000 in
set_option maxRecDepth 100000 in
theorem kX16_word_8 (l : Launch) (dC : Nat → ClassId) (dI : Nat → Nat → Nat) (g : Nat → Nat) (sz : Nat) (h0 : Nat) (x0 : Int32) (v0 : Value) (v1 : Value) (v2 : Value) (v3 : Value) (v4 : Value) (v5 : Value) (v6 : Value) (v7 : Value) (v8 : Value) (ex0 : (-2147483648 : Int) ≤ x0.toInt ∧ x0.toInt ≤ (-1 : Int)) : Met l yX16_word wsX16_word ({ frames := 2, cells := 0, slots := 0, locals := 44 }) (va_Pc [.ref h0, .int x0, .int 7] (fun U => U.heap.size = sz ∧ va_P (dC, dI) vwCl [(h0, .inr (23, [v0, v1, v2, v3, v4, v5, v6, v7, v8]))] U.heap ∧ va_K (dC, dI) vwCl [] U ∧ va_D (fun _ => True) [(h0, .inr (23, [v0, v1, v2, v3, v4, v5, v6, v7, v8]))] ∧ ns_F g (va_A [(h0, .inr (23, [v0, v1, v2, v3, v4, v5, v6, v7, v8]))] sz) U U.heap)) (va_Qi (fun (r : Int32) (_ : Unit) => r = 0) (fun _ t => va_P (dC, dI) vwCl [(h0, .inr (23, [.int 1, v1, v2, v3, v4, v5, v6, v7, v8]))] t.heap ∧ va_K (dC, dI) vwCl [] t ∧ va_D (va_A [(h0, .inr (23, [v0, v1, v2, v3, v4, v5, v6, v7, v8]))] sz) [(h0, .inr (23, [.int 1, v1, v2, v3, v4, v5, v6, v7, v8]))]) (va_A [(h0, .inr (23, [v0, v1, v2, v3, v4, v5, v6, v7, v8]))] sz)) 0 0 (va_A [(h0, .inr (23, [v0, v1, v2, v3, v4, v5, v6, v7, v8]))] sz) := by
  refine Met.ofW (cc := cX16_word) (maxL := 5) (ret := (some .int)) (by decide) rfl ?_
  intro p e s m args below meth c s₁ B hml hv
  obtain ⟨rfl, hsz, hP, hK, hD0, hF⟩ := hv
  have hx := B.exec
  have hb := B.bytes
  have hr := B.returns
  have hts := atoms_spec (ws := wsX16_word) B.pre
  have hown : s.vm.findClass RX16 = some m.cls := findClass_of_methodNamed B.named
  have hlocks := B.notSynchronized
  subst hsz
  have hD := hD0.self (sz := s.heap.size)
  generalize hAe : va_A [(h0, .inr (23, [v0, v1, v2, v3, v4, v5, v6, v7, v8]))] s.heap.size = A at hD hF ⊢
  have hA : ∀ q : Nat, s.heap.size ≤ q → A q := fun q h => by rw [← hAe]; exact Or.inr h
  have hS : va_S A s.heap s.heap [] := va_S.rf
  have hP : va_P (dC, dI) vwCl [(h0, .inr (23, [v0, v1, v2, v3, v4, v5, v6, v7, v8]))] s.heap := hP
  have hl := lv_entry ([.ref h0, .int x0, .int 7]) (n := 5) (Nat.le_of_ble_eq_true rfl)
  rw [lg_entry_eq]
  generalize (lg_sl ([.ref h0, .int x0, .int 7]) ++ List.replicate (5 - (lg_sl ([.ref h0, .int x0, .int 7])).length) Slot.unset).toArray = ls at hl ⊢
  have hl : lv_has ls 5 [(0, .ref h0), (1, .int x0), (2, .int 7)] := hl
  refine lv_aload_n hx hb dX16_word_0 rfl (lv_at hl 0 rfl) ?_
  refine lv_iload_n hx hb dX16_word_1 rfl (lv_at hl 1 rfl) ?_
  refine lv_iconst (v := 0) hx hb dX16_word_2 (by decide) ?_
  refine lv_bipush (v := 25) hx hb dX16_word_3 (by decide) ?_
  have hPc := hP.sub (ws' := []) [] rfl
  have hDc := hD.sub (ws' := []) [] (by decide) rfl
  have hKc := hK.sub (tys' := []) [] rfl
  have hFc := va_free (wc := []) hD hS hA [] rfl
  refine va_calli (va_runS (As := [.int x0, .int 0, .int 25]) (rest := [.ref h0]) ⟨hx, hb, hml, hown, hts⟩ (kX16_isIn l dC dI g s.heap.size x0 ⟨by omega, by omega⟩) (va_cwS 3 hts gX16_word_X16_isIn rfl rfl rfl (by decide +kernel) ⟨Nat.le_of_ble_eq_true rfl, Nat.le_of_ble_eq_true rfl⟩) ⟨fun a U gg mk q => by obtain ⟨q0, q1, qP, qK, qD, qF⟩ := q; exact ⟨q0, q1, qP, va_K.moved (u := U) (U := U.calling gg mk a) (Vm.Alike.refl U.vm) qK, qD, ns_same qF⟩, fun U hU hW => ⟨rfl, by rw [hU], by rw [hU]; exact hPc, va_K.moved hW.alike hKc, hDc.weaken (fun _ _ _ _ => trivial), ns_call hF hS hFc hU hW⟩⟩ rfl rfl hl.1 rfl (lv_room (Nat.le_of_ble_eq_true rfl)) dX16_word_5 ⟨Nat.le_of_ble_eq_true rfl, Nat.le_of_ble_eq_true rfl⟩) hS (fun q _ h => hFc q h) hFc (fun r9 u t H1 locs ht hvm hw hB hz1 hk1 hS => ?_)
  obtain rfl := hw
  obtain ⟨hP1, hK1, hD1⟩ := hB
  rw [ht] at hP1
  have hK1 := va_K.moved hvm.symm hK1
  obtain ⟨hP, hD⟩ := va_join (wr := [(h0, .inr (23, [v0, v1, v2, v3, v4, v5, v6, v7, v8]))]) (w1 := []) hP hD [] [0] rfl rfl (by decide) (by decide) hk1 hFc hP1 hD1
  have hK := (hK.sub (tys' := []) [] rfl).app hK1
  generalize H1 = H at hP hS ⊢
  have hP : va_P (dC, dI) vwCl [(h0, .inr (23, [v0, v1, v2, v3, v4, v5, v6, v7, v8]))] H := hP
  have hD : va_D A [(h0, .inr (23, [v0, v1, v2, v3, v4, v5, v6, v7, v8]))] := hD
  have hK : va_K (dC, dI) vwCl [] s := hK
  refine W.widen (k := 0) (n := 0) (Nat.le_of_ble_eq_true rfl) (Nat.le_of_ble_eq_true rfl) ?_
  refine lv_if_eq (tgt := 21) hx hb dX16_word_8 (by decide) (fun c1 => ?_) (fun c1 => absurd (by decide) c1)
  refine lv_iconst (v := 1) hx hb dX16_word_21 (by decide) ?_
  refine lv_goto (tgt := 26) hx hb dX16_word_22 (by decide) ?_
  refine lv_iconst (v := 1) hx hb dX16_word_26 (by decide) ?_
  have hPc := hP.sub (ws' := [(h0, .inr (23, [v0, v1, v2, v3, v4, v5, v6, v7, v8]))]) [0] rfl
  have hDc := hD.sub (ws' := [(h0, .inr (23, [v0, v1, v2, v3, v4, v5, v6, v7, v8]))]) [0] (by decide) rfl
  have hKc := hK.sub (tys' := []) [] rfl
  have hFc := va_free (wc := [(h0, .inr (23, [v0, v1, v2, v3, v4, v5, v6, v7, v8]))]) hD hS hA [0] rfl
  refine va_calli (va_runV (As := [.int 1, .int 1]) (rest := []) ⟨hx, hb, hml, hown, hts⟩ (kX16_start l dC dI g H.size h0 v0 v1 v2 v3 v4 v5 v6 v7 v8 ) (cwV 2 hts gX16_word_X16_start rfl rfl rfl (by decide +kernel) ⟨Nat.le_of_ble_eq_true rfl, Nat.le_of_ble_eq_true rfl⟩) ⟨fun a U gg mk q => by obtain ⟨q0, q1, qP, qK, qD, qF⟩ := q; exact ⟨q0, q1, qP, va_K.moved (u := U) (U := U.calling gg mk a) (Vm.Alike.refl U.vm) qK, qD, ns_same qF⟩, va_recv hK hP (ci := 23) (q0 := 0) rfl rfl, fun U hU hW => ⟨rfl, by rw [hU], by rw [hU]; exact hPc, va_K.moved hW.alike hKc, hDc.weaken (fun _ _ _ _ => trivial), ns_call hF hS hFc hU hW⟩⟩ rfl rfl hl.1 rfl (lv_room (Nat.le_of_ble_eq_true rfl)) dX16_word_27 ⟨Nat.le_of_ble_eq_true rfl, Nat.le_of_ble_eq_true rfl⟩) hS (fun q _ h => hFc q h) hFc (fun r9 u t H1 locs ht hvm hw hB hz1 hk1 hS => ?_)
  obtain rfl := hw
  obtain ⟨hP1, hK1, hD1⟩ := hB
  rw [ht] at hP1
  have hK1 := va_K.moved hvm.symm hK1
  obtain ⟨hP, hD⟩ := va_join (wr := []) (w1 := [(h0, .inr (23, [.int 1, v1, v2, v3, v4, v5, v6, v7, v8]))]) hP hD [0] [] rfl rfl (by decide) (by decide) hk1 hFc hP1 hD1
  have hK := (hK.sub (tys' := []) [] rfl).app hK1
  generalize H1 = H at hP hS ⊢
  have hP : va_P (dC, dI) vwCl [(h0, .inr (23, [.int 1, v1, v2, v3, v4, v5, v6, v7, v8]))] H := hP
  have hD : va_D A [(h0, .inr (23, [.int 1, v1, v2, v3, v4, v5, v6, v7, v8]))] := hD
  have hK : va_K (dC, dI) vwCl [] s := hK
  refine W.widen (k := 0) (n := 0) (Nat.le_of_ble_eq_true rfl) (Nat.le_of_ble_eq_true rfl) ?_
  refine lv_if_ne (tgt := 45) hx hb dX16_word_30 (by decide) (fun c2 => ?_) (fun c2 => absurd c2 (by decide))
  refine lv_iconst (v := 0) hx hb dX16_word_45 (by decide) ?_
  have hP9 := hP.sub (ws' := [(h0, .inr (23, [.int 1, v1, v2, v3, v4, v5, v6, v7, v8]))]) [0] rfl
  have hD9 := hD.sub (ws' := [(h0, .inr (23, [.int 1, v1, v2, v3, v4, v5, v6, v7, v8]))]) [0] (by decide) rfl
  have hK9 := hK.sub (tys' := []) [] rfl
  refine W.widen (k := 0) (n := 0) (Nat.le_of_ble_eq_true rfl) (Nat.le_of_ble_eq_true rfl) ?_
  exact W.iret (v := 0) hx hb hr (fun t ht hW => ⟨⟨_, (), rfl, rfl, by rw [ht]; exact hP9, va_K.moved hW.alike hK9, hD9⟩, hS.F ht⟩) hS.2.2 dX16_word_46
set_option maxHeartbeats 4000000 in
set_option maxRecDepth 100000 in
theorem kX9_word_9 (l : Launch) (dC : Nat → ClassId) (dI : Nat → Nat → Nat) (g : Nat → Nat) (sz : Nat) (h0 : Nat) (x0 : Int32) (ex0 : (-2147483648 : Int) ≤ x0.toInt ∧ x0.toInt ≤ (-1 : Int)) (hlt : l.stackTraces = false) : vx_Met l yX9_word wsX9_word ({ frames := 6, cells := 1, slots := 6, locals := 82 }) (va_Pc [.ref h0, .int x0, .int 8] (fun U => U.heap.size = sz ∧ va_P (dC, dI) vwCl [] U.heap ∧ va_K (dC, dI) vwCl [] U ∧ va_D (fun _ => True) [] ∧ ns_F g (va_A [] sz) U U.heap)) (va_Qv (fun _ : Unit => False) (fun _ _ => True) (va_A [] sz)) (vx_X (fun _ : Unit => True) (fun E _ _ => E = "java/lang/IllegalArgumentException") (va_A [] sz)) 1 6 (va_A [] sz) := by
  refine vx_ofW (cc := cX9_word) (maxL := 4) (ret := (some .int)) (by decide) rfl ?_
  intro p e s m args below meth c s₁ B hml hnox hv
  obtain ⟨rfl, hsz, hP, hK, hD0, hF⟩ := hv
  have hx := B.exec
  have hb := B.bytes
  have hr := B.returns
  have hts := atoms_spec (ws := wsX9_word) B.pre
  have hown : s.vm.findClass RX9 = some m.cls := findClass_of_methodNamed B.named
  have hlocks := B.notSynchronized
  subst hsz
  have hD := hD0.self (sz := s.heap.size)
  generalize hAe : va_A [] s.heap.size = A at hD hF ⊢
  have hA : ∀ q : Nat, s.heap.size ≤ q → A q := fun q h => by rw [← hAe]; exact Or.inr h
  have hS : va_S A s.heap s.heap [] := va_S.rf
  have hP : va_P (dC, dI) vwCl [] s.heap := hP
  have hl := lv_entry ([.ref h0, .int x0, .int 8]) (n := 4) (Nat.le_of_ble_eq_true rfl)
  rw [lg_entry_eq]
  generalize (lg_sl ([.ref h0, .int x0, .int 8]) ++ List.replicate (4 - (lg_sl ([.ref h0, .int x0, .int 8])).length) Slot.unset).toArray = ls at hl ⊢
  have hl : lv_has ls 4 [(0, .ref h0), (1, .int x0), (2, .int 8)] := hl
  refine lv_iload_n hx hb dX9_word_0 rfl (lv_at hl 1 rfl) ?_
  refine lv_if_lt (tgt := 10) hx hb dX9_word_1 (by decide) (fun c1 => ?_) (fun c1 => absurd (Int32.lt_iff_toInt_lt.mpr (show x0.toInt < (0 : Int) by omega)) c1)
  exact vx_throwS hx hb hlt (text := "letter is 0 to 25") (sa := (g 10)) (names := ["java/lang/RuntimeException", "java/lang/Exception"]) hown (by decide) (by decide) (hts (.classLink RX9 100 "java/lang/IllegalArgumentException") (by decide +kernel)) (hts (.initialized "java/lang/IllegalArgumentException") (by decide +kernel)) (ns_f20 hF) (vx_hat (B := [.declares ⟨"java/lang/RuntimeException", "<init>", "(Ljava/lang/String;)V"⟩, .declares ⟨"java/lang/Exception", "<init>", "(Ljava/lang/String;)V"⟩, .declares ⟨"java/lang/Throwable", "<init>", "(Ljava/lang/String;)V"⟩, .castable "java/lang/IllegalArgumentException" "java/lang/IllegalArgumentException"]) (fun w9 h9 => hts w9 (List.mem_cons_of_mem _ ((fun h9 => List.mem_append_left _ (List.mem_append_left _ (List.mem_append_right _ h9))) h9))) (by decide +kernel) (vx_c (va_Nw.use rfl (ns_f12 hF)) (vx_c (va_Nw.use rfl (ns_f13 hF)) (vx_c (va_Nw.use rfl (ns_f14 hF)) (vx_c (va_Nw.use rfl (ns_f11 hF)) vx_n))))) (by decide +kernel) (ns_f17 hF) (ns_f18 hF) hS (by rw [hml]; exact hl.1) dX9_word_10 dX9_word_13 dX9_word_14 dX9_word_16 dX9_word_19 (fun x hx => (hnox x hx).elim) (Nat.le_of_ble_eq_true rfl) (Nat.le_of_ble_eq_true rfl) (Nat.le_of_ble_eq_true rfl) (Nat.le_of_ble_eq_true rfl) hlocks (fun t9 hal hsz9 hk9 => ⟨(), trivial, rfl, Nat.le_trans hS.1 hsz9, fun q hq1 hq2 => (hk9 q (Nat.lt_of_lt_of_le hq1 hS.1)).trans (hS.2.1 q hq1 hq2)⟩) hS.2.2 (Nat.le_of_ble_eq_true rfl) (Nat.le_of_ble_eq_true rfl)
set_option maxHeartbeats 4000000 in
set_option maxRecDepth 100000 in
theorem kL_word_9 (l : Launch) (dC : Nat → ClassId) (dI : Nat → Nat → Nat) (g : Nat → Nat) (sz : Nat) (h0 : Nat) (x0 : Int32) (h1 : Nat) (v0 : Value) (v1 : Value) (v2 : Value) (v3 : Value) (v4 : Value) (v5 : Value) (v6 : Value) (v7 : Value) (v8 : Value) (v9 : Value) (v10 : Value) (v11 : Value) (v12 : Value) (v13 : Value) (v14 : Value) (v15 : Value) (ex0 : (-2147483648 : Int) ≤ x0.toInt ∧ x0.toInt ≤ (-1 : Int)) (hlt : l.stackTraces = false) : Met l yL_word wsL_word ({ frames := 7, cells := 1, slots := 6, locals := 105 }) (va_Pc [.ref h0, .int x0, .int 8, .ref h1] (fun U => U.heap.size = sz ∧ va_P (dC, dI) vwCl [(h0, .inr (16, [v0, v1, v2, v3, v4, v5, v6, v7, v8, v9, v10, v11, v12, v13, v14, v15]))] U.heap ∧ va_K (dC, dI) vwCl [] U ∧ va_D (fun _ => True) [(h0, .inr (16, [v0, v1, v2, v3, v4, v5, v6, v7, v8, v9, v10, v11, v12, v13, v14, v15]))] ∧ ns_F g (va_A [(h0, .inr (16, [v0, v1, v2, v3, v4, v5, v6, v7, v8, v9, v10, v11, v12, v13, v14, v15]))] sz) U U.heap)) (va_Qi (fun (r : Int32) (_ : Unit) => r = 1) (fun _ t => va_P (dC, dI) vwCl [(h0, .inr (16, [v0, v1, v2, v3, v4, v5, v6, v7, v8, v9, v10, v11, v12, v13, v14, v15]))] t.heap ∧ va_K (dC, dI) vwCl [] t ∧ va_D (va_A [(h0, .inr (16, [v0, v1, v2, v3, v4, v5, v6, v7, v8, v9, v10, v11, v12, v13, v14, v15]))] sz) [(h0, .inr (16, [v0, v1, v2, v3, v4, v5, v6, v7, v8, v9, v10, v11, v12, v13, v14, v15]))]) (va_A [(h0, .inr (16, [v0, v1, v2, v3, v4, v5, v6, v7, v8, v9, v10, v11, v12, v13, v14, v15]))] sz)) 1 6 (va_A [(h0, .inr (16, [v0, v1, v2, v3, v4, v5, v6, v7, v8, v9, v10, v11, v12, v13, v14, v15]))] sz) := by
  refine va_MetW (cc := cL_word) (maxL := 5) (ret := (some .int)) (hh := [(0, 11, 14, 19), (0, 11, 18, 21)]) (by decide) rfl ?_
  intro p e s m args below meth c s₁ B hml hv
  obtain ⟨rfl, hsz, hP, hK, hD0, hF⟩ := hv
  have hx := B.exec
  have hb := B.bytes
  have hr := B.returns
  have hts := atoms_spec (ws := wsL_word) B.pre
  have hown : s.vm.findClass RL = some m.cls := findClass_of_methodNamed B.named
  have hlocks := B.notSynchronized
  have htab : c.exceptionTable.toList = [⟨0, 11, 14, 19⟩, ⟨0, 11, 18, 21⟩] := vx_table B (hts _ List.mem_cons_self)
  subst hsz
  have hD := hD0.self (sz := s.heap.size)
  generalize hAe : va_A [(h0, .inr (16, [v0, v1, v2, v3, v4, v5, v6, v7, v8, v9, v10, v11, v12, v13, v14, v15]))] s.heap.size = A at hD hF ⊢
  have hA : ∀ q : Nat, s.heap.size ≤ q → A q := fun q h => by rw [← hAe]; exact Or.inr h
  have hS : va_S A s.heap s.heap [] := va_S.rf
  have hP : va_P (dC, dI) vwCl [(h0, .inr (16, [v0, v1, v2, v3, v4, v5, v6, v7, v8, v9, v10, v11, v12, v13, v14, v15]))] s.heap := hP
  have hl := lv_entry ([.ref h0, .int x0, .int 8, .ref h1]) (n := 5) (Nat.le_of_ble_eq_true rfl)
  rw [lg_entry_eq]
  generalize (lg_sl ([.ref h0, .int x0, .int 8, .ref h1]) ++ List.replicate (5 - (lg_sl ([.ref h0, .int x0, .int 8, .ref h1])).length) Slot.unset).toArray = ls at hl ⊢
  have hl : lv_has ls 5 [(0, .ref h0), (1, .int x0), (2, .int 8), (3, .ref h1)] := hl
  refine lv_aload_n hx hb dL_word_0 rfl (lv_at hl 3 rfl) ?_
  refine lv_aload_n hx hb dL_word_1 rfl (lv_at hl 0 rfl) ?_
  refine lv_iload_n hx hb dL_word_2 rfl (lv_at hl 1 rfl) ?_
  refine lv_iload_n hx hb dL_word_3 rfl (lv_at hl 2 rfl) ?_
  have hPc := hP.sub (ws' := []) [] rfl
  have hDc := hD.sub (ws' := []) [] (by decide) rfl
  have hKc := hK.sub (tys' := []) [] rfl
  have hFc := va_free (wc := []) hD hS hA [] rfl
  refine vx_callv (vx_runV (As := [.int x0, .int 8]) (rest := [.ref h1]) ⟨hx, hb, hml, hown, hts⟩ (kX9_word_9 l dC dI g s.heap.size h0 x0 ⟨by omega, by omega⟩ hlt) (cwV 2 hts gL_word_X9_word rfl rfl rfl (by decide +kernel) ⟨Nat.le_of_ble_eq_true rfl, Nat.le_of_ble_eq_true rfl⟩) ⟨fun a U gg mk q => by obtain ⟨q0, q1, qP, qK, qD, qF⟩ := q; exact ⟨q0, q1, qP, va_K.moved (u := U) (U := U.calling gg mk a) (Vm.Alike.refl U.vm) qK, qD, ns_same qF⟩, va_recv hK hP (ci := 16) (q0 := 0) rfl rfl, fun U hU hW => ⟨rfl, by rw [hU], by rw [hU]; exact hPc, va_K.moved hW.alike hKc, hDc.weaken (fun _ _ _ _ => trivial), ns_call hF hS hFc hU hW⟩⟩ rfl rfl hl.1 rfl (lv_room (Nat.le_of_ble_eq_true rfl)) dL_word_4 ⟨Nat.le_of_ble_eq_true rfl, Nat.le_of_ble_eq_true rfl⟩) hS (fun q _ h => hFc q h) hFc (fun q _ h => hFc q h) (fun E ce q9 u t H1 locs ht hvm hw hB hz1 hk1 hS hc1 hc2 hc3 => ?_) (fun _ _ _ _ _ _ hw _ _ _ _ => False.elim hw)
  obtain rfl : E = "java/lang/IllegalArgumentException" := hB
  obtain ⟨hP, hD⟩ := va_join (wr := [(h0, .inr (16, [v0, v1, v2, v3, v4, v5, v6, v7, v8, v9, v10, v11, v12, v13, v14, v15]))]) (w1 := []) hP hD [] [0] rfl rfl (by decide) (by decide) hk1 hFc (fun k q h => by simp at h) ⟨fun i j p q h => by simp at h, fun k q h => by simp at h⟩
  have hK := hK.sub (tys' := []) [] rfl
  generalize H1 = H at hP hS hc1 ⊢
  have hP : va_P (dC, dI) vwCl [(h0, .inr (16, [v0, v1, v2, v3, v4, v5, v6, v7, v8, v9, v10, v11, v12, v13, v14, v15]))] H := hP
  have hD : va_D A [(h0, .inr (16, [v0, v1, v2, v3, v4, v5, v6, v7, v8, v9, v10, v11, v12, v13, v14, v15]))] := hD
  have hK : va_K (dC, dI) vwCl [] s := hK
  refine vx_widen (k := 1) (n := 6) (Nat.le_of_ble_eq_true rfl) (Nat.le_of_ble_eq_true rfl) ?_
  refine vx_catch hown [] ⟨0, 11, 14, 19⟩ [⟨0, 11, 18, 21⟩] htab (fun z hz => by simp at hz) (by decide) (by decide) (hts (.classLink RL 19 "java/lang/IllegalArgumentException") (by decide +kernel)) (va_Nw.use rfl (ns_f11 hF)) hc1 hc2 hc3 ?_
  refine W.eq (g2 := F0 m 14 ls [.ref q9]) rfl ?_
  refine lv_astore (lv' := [(4, .ref q9), (0, .ref h0), (1, .int x0), (2, .int 8), (3, .ref h1)]) hx hb dL_word_14 hl (by decide) rfl (fun ls hl => ?_)
  refine lv_iconst (v := 1) hx hb dL_word_16 (by decide) ?_
  have hP9 := hP.sub (ws' := [(h0, .inr (16, [v0, v1, v2, v3, v4, v5, v6, v7, v8, v9, v10, v11, v12, v13, v14, v15]))]) [0] rfl
  have hD9 := hD.sub (ws' := [(h0, .inr (16, [v0, v1, v2, v3, v4, v5, v6, v7, v8, v9, v10, v11, v12, v13, v14, v15]))]) [0] (by decide) rfl
  have hK9 := hK.sub (tys' := []) [] rfl
  refine W.widen (k := 1) (n := 6) (Nat.le_of_ble_eq_true rfl) (Nat.le_of_ble_eq_true rfl) ?_
  exact W.iret (v := 1) hx hb hr (fun t ht hW => ⟨⟨_, (), rfl, rfl, by rw [ht]; exact hP9, va_K.moved hW.alike hK9, hD9⟩, hS.F ht⟩) hS.2.2 dL_word_17
set_option maxHeartbeats 4000000 in
set_option maxRecDepth 100000 in
theorem kX16_word_9 (l : Launch) (dC : Nat → ClassId) (dI : Nat → Nat → Nat) (g : Nat → Nat) (sz : Nat) (h0 : Nat) (x0 : Int32) (v0 : Value) (v1 : Value) (v2 : Value) (v3 : Value) (v4 : Value) (v5 : Value) (v6 : Value) (v7 : Value) (v8 : Value) (ex0 : (-2147483648 : Int) ≤ x0.toInt ∧ x0.toInt ≤ (-1 : Int)) : Met l yX16_word wsX16_word ({ frames := 2, cells := 0, slots := 0, locals := 44 }) (va_Pc [.ref h0, .int x0, .int 8] (fun U => U.heap.size = sz ∧ va_P (dC, dI) vwCl [(h0, .inr (23, [v0, v1, v2, v3, v4, v5, v6, v7, v8]))] U.heap ∧ va_K (dC, dI) vwCl [] U ∧ va_D (fun _ => True) [(h0, .inr (23, [v0, v1, v2, v3, v4, v5, v6, v7, v8]))] ∧ ns_F g (va_A [(h0, .inr (23, [v0, v1, v2, v3, v4, v5, v6, v7, v8]))] sz) U U.heap)) (va_Qi (fun (r : Int32) (_ : Unit) => r = 0) (fun _ t => va_P (dC, dI) vwCl [(h0, .inr (23, [.int 1, v1, v2, v3, v4, v5, v6, v7, v8]))] t.heap ∧ va_K (dC, dI) vwCl [] t ∧ va_D (va_A [(h0, .inr (23, [v0, v1, v2, v3, v4, v5, v6, v7, v8]))] sz) [(h0, .inr (23, [.int 1, v1, v2, v3, v4, v5, v6, v7, v8]))]) (va_A [(h0, .inr (23, [v0, v1, v2, v3, v4, v5, v6, v7, v8]))] sz)) 0 0 (va_A [(h0, .inr (23, [v0, v1, v2, v3, v4, v5, v6, v7, v8]))] sz) := by
  refine Met.ofW (cc := cX16_word) (maxL := 5) (ret := (some .int)) (by decide) rfl ?_
  intro p e s m args below meth c s₁ B hml hv
  obtain ⟨rfl, hsz, hP, hK, hD0, hF⟩ := hv
  have hx := B.exec
  have hb := B.bytes
  have hr := B.returns
  have hts := atoms_spec (ws := wsX16_word) B.pre
  have hown : s.vm.findClass RX16 = some m.cls := findClass_of_methodNamed B.named
  have hlocks := B.notSynchronized
  subst hsz
  have hD := hD0.self (sz := s.heap.size)
  generalize hAe : va_A [(h0, .inr (23, [v0, v1, v2, v3, v4, v5, v6, v7, v8]))] s.heap.size = A at hD hF ⊢
  have hA : ∀ q : Nat, s.heap.size ≤ q → A q := fun q h => by rw [← hAe]; exact Or.inr h
  have hS : va_S A s.heap s.heap [] := va_S.rf
  have hP : va_P (dC, dI) vwCl [(h0, .inr (23, [v0, v1, v2, v3, v4, v5, v6, v7, v8]))] s.heap := hP
  have hl := lv_entry ([.ref h0, .int x0, .int 8]) (n := 5) (Nat.le_of_ble_eq_true rfl)
  rw [lg_entry_eq]
  generalize (lg_sl ([.ref h0, .int x0, .int 8]) ++ List.replicate (5 - (lg_sl ([.ref h0, .int x0, .int 8])).length) Slot.unset).toArray = ls at hl ⊢
  have hl : lv_has ls 5 [(0, .ref h0), (1, .int x0), (2, .int 8)] := hl
  refine lv_aload_n hx hb dX16_word_0 rfl (lv_at hl 0 rfl) ?_
  refine lv_iload_n hx hb dX16_word_1 rfl (lv_at hl 1 rfl) ?_
  refine lv_iconst (v := 0) hx hb dX16_word_2 (by decide) ?_
  refine lv_bipush (v := 25) hx hb dX16_word_3 (by decide) ?_
  have hPc := hP.sub (ws' := []) [] rfl
  have hDc := hD.sub (ws' := []) [] (by decide) rfl
  have hKc := hK.sub (tys' := []) [] rfl
  have hFc := va_free (wc := []) hD hS hA [] rfl
  refine va_calli (va_runS (As := [.int x0, .int 0, .int 25]) (rest := [.ref h0]) ⟨hx, hb, hml, hown, hts⟩ (kX16_isIn l dC dI g s.heap.size x0 ⟨by omega, by omega⟩) (va_cwS 3 hts gX16_word_X16_isIn rfl rfl rfl (by decide +kernel) ⟨Nat.le_of_ble_eq_true rfl, Nat.le_of_ble_eq_true rfl⟩) ⟨fun a U gg mk q => by obtain ⟨q0, q1, qP, qK, qD, qF⟩ := q; exact ⟨q0, q1, qP, va_K.moved (u := U) (U := U.calling gg mk a) (Vm.Alike.refl U.vm) qK, qD, ns_same qF⟩, fun U hU hW => ⟨rfl, by rw [hU], by rw [hU]; exact hPc, va_K.moved hW.alike hKc, hDc.weaken (fun _ _ _ _ => trivial), ns_call hF hS hFc hU hW⟩⟩ rfl rfl hl.1 rfl (lv_room (Nat.le_of_ble_eq_true rfl)) dX16_word_5 ⟨Nat.le_of_ble_eq_true rfl, Nat.le_of_ble_eq_true rfl⟩) hS (fun q _ h => hFc q h) hFc (fun r9 u t H1 locs ht hvm hw hB hz1 hk1 hS => ?_)
  obtain rfl := hw
  obtain ⟨hP1, hK1, hD1⟩ := hB
  rw [ht] at hP1
  have hK1 := va_K.moved hvm.symm hK1
  obtain ⟨hP, hD⟩ := va_join (wr := [(h0, .inr (23, [v0, v1, v2, v3, v4, v5, v6, v7, v8]))]) (w1 := []) hP hD [] [0] rfl rfl (by decide) (by decide) hk1 hFc hP1 hD1
  have hK := (hK.sub (tys' := []) [] rfl).app hK1
  generalize H1 = H at hP hS ⊢
  have hP : va_P (dC, dI) vwCl [(h0, .inr (23, [v0, v1, v2, v3, v4, v5, v6, v7, v8]))] H := hP
  have hD : va_D A [(h0, .inr (23, [v0, v1, v2, v3, v4, v5, v6, v7, v8]))] := hD
  have hK : va_K (dC, dI) vwCl [] s := hK
  refine W.widen (k := 0) (n := 0) (Nat.le_of_ble_eq_true rfl) (Nat.le_of_ble_eq_true rfl) ?_
  refine lv_if_eq (tgt := 21) hx hb dX16_word_8 (by decide) (fun c1 => ?_) (fun c1 => absurd (by decide) c1)
  refine lv_iconst (v := 1) hx hb dX16_word_21 (by decide) ?_
  refine lv_goto (tgt := 26) hx hb dX16_word_22 (by decide) ?_
  refine lv_iconst (v := 1) hx hb dX16_word_26 (by decide) ?_
  have hPc := hP.sub (ws' := [(h0, .inr (23, [v0, v1, v2, v3, v4, v5, v6, v7, v8]))]) [0] rfl
  have hDc := hD.sub (ws' := [(h0, .inr (23, [v0, v1, v2, v3, v4, v5, v6, v7, v8]))]) [0] (by decide) rfl
  have hKc := hK.sub (tys' := []) [] rfl
  have hFc := va_free (wc := [(h0, .inr (23, [v0, v1, v2, v3, v4, v5, v6, v7, v8]))]) hD hS hA [0] rfl
  refine va_calli (va_runV (As := [.int 1, .int 1]) (rest := []) ⟨hx, hb, hml, hown, hts⟩ (kX16_start l dC dI g H.size h0 v0 v1 v2 v3 v4 v5 v6 v7 v8 ) (cwV 2 hts gX16_word_X16_start rfl rfl rfl (by decide +kernel) ⟨Nat.le_of_ble_eq_true rfl, Nat.le_of_ble_eq_true rfl⟩) ⟨fun a U gg mk q => by obtain ⟨q0, q1, qP, qK, qD, qF⟩ := q; exact ⟨q0, q1, qP, va_K.moved (u := U) (U := U.calling gg mk a) (Vm.Alike.refl U.vm) qK, qD, ns_same qF⟩, va_recv hK hP (ci := 23) (q0 := 0) rfl rfl, fun U hU hW => ⟨rfl, by rw [hU], by rw [hU]; exact hPc, va_K.moved hW.alike hKc, hDc.weaken (fun _ _ _ _ => trivial), ns_call hF hS hFc hU hW⟩⟩ rfl rfl hl.1 rfl (lv_room (Nat.le_of_ble_eq_true rfl)) dX16_word_27 ⟨Nat.le_of_ble_eq_true rfl, Nat.le_of_ble_eq_true rfl⟩) hS (fun q _ h => hFc q h) hFc (fun r9 u t H1 locs ht hvm hw hB hz1 hk1 hS => ?_)
  obtain rfl := hw
  obtain ⟨hP1, hK1, hD1⟩ := hB
  rw [ht] at hP1
  have hK1 := va_K.moved hvm.symm hK1
  obtain ⟨hP, hD⟩ := va_join (wr := []) (w1 := [(h0, .inr (23, [.int 1, v1, v2, v3, v4, v5, v6, v7, v8]))]) hP hD [0] [] rfl rfl (by decide) (by decide) hk1 hFc hP1 hD1
  have hK := (hK.sub (tys' := []) [] rfl).app hK1
  generalize H1 = H at hP hS ⊢
  have hP : va_P (dC, dI) vwCl [(h0, .inr (23, [.int 1, v1, v2, v3, v4, v5, v6, v7, v8]))] H := hP
  have hD : va_D A [(h0, .inr (23, [.int 1, v1, v2, v3, v4, v5, v6, v7, v8]))] := hD
  have hK : va_K (dC, dI) vwCl [] s := hK
  refine W.widen (k := 0) (n := 0) (Nat.le_of_ble_eq_true rfl) (Nat.le_of_ble_eq_true rfl) ?_
  refine lv_if_ne (tgt := 45) hx hb dX16_word_30 (by decide) (fun c2 => ?_) (fun c2 => absurd c2 (by decide))
  refine lv_iconst (v := 0) hx hb dX16_word_45 (by decide) ?_
  have hP9 := hP.sub (ws' := [(h0, .inr (23, [.int 1, v1, v2, v3, v4, v5, v6, v7, v8]))]) [0] rfl
  have hD9 := hD.sub (ws' := [(h0, .inr (23, [.int 1, v1, v2, v3, v4, v5, v6, v7, v8]))]) [0] (by decide) rfl
  have hK9 := hK.sub (tys' := []) [] rfl
  refine W.widen (k := 0) (n := 0) (Nat.le_of_ble_eq_true rfl) (Nat.le_of_ble_eq_true rfl) ?_
  exact W.iret (v := 0) hx hb hr (fun t ht hW => ⟨⟨_, (), rfl, rfl, by rw [ht]; exact hP9, va_K.moved hW.alike hK9, hD9⟩, hS.F ht⟩) hS.2.2 dX16_word_46
set_option maxHeartbeats 4000000 in
set_option maxRecDepth 100000 in
theorem kX9_word_10 (l : Launch) (dC : Nat → ClassId) (dI : Nat → Nat → Nat) (g : Nat → Nat) (sz : Nat) (h0 : Nat) (x0 : Int32) (ex0 : (-2147483648 : Int) ≤ x0.toInt ∧ x0.toInt ≤ (-1 : Int)) (hlt : l.stackTraces = false) : vx_Met l yX9_word wsX9_word ({ frames := 6, cells := 1, slots := 6, locals := 82 }) (va_Pc [.ref h0, .int x0, .int 9] (fun U => U.heap.size = sz ∧ va_P (dC, dI) vwCl [] U.heap ∧ va_K (dC, dI) vwCl [] U ∧ va_D (fun _ => True) [] ∧ ns_F g (va_A [] sz) U U.heap)) (va_Qv (fun _ : Unit => False) (fun _ _ => True) (va_A [] sz)) (vx_X (fun _ : Unit => True) (fun E _ _ => E = "java/lang/IllegalArgumentException") (va_A [] sz)) 1 6 (va_A [] sz) := by
  refine vx_ofW (cc := cX9_word) (maxL := 4) (ret := (some .int)) (by decide) rfl ?_
  intro p e s m args below meth c s₁ B hml hnox hv
  obtain ⟨rfl, hsz, hP, hK, hD0, hF⟩ := hv
  have hx := B.exec
  have hb := B.bytes
  have hr := B.returns
  have hts := atoms_spec (ws := wsX9_word) B.pre
  have hown : s.vm.findClass RX9 = some m.cls := findClass_of_methodNamed B.named
  have hlocks := B.notSynchronized
  subst hsz
  have hD := hD0.self (sz := s.heap.size)
  generalize hAe : va_A [] s.heap.size = A at hD hF ⊢
  have hA : ∀ q : Nat, s.heap.size ≤ q → A q := fun q h => by rw [← hAe]; exact Or.inr h
  have hS : va_S A s.heap s.heap [] := va_S.rf
  have hP : va_P (dC, dI) vwCl [] s.heap := hP
  have hl := lv_entry ([.ref h0, .int x0, .int 9]) (n := 4) (Nat.le_of_ble_eq_true rfl)
  rw [lg_entry_eq]
  generalize (lg_sl ([.ref h0, .int x0, .int 9]) ++ List.replicate (4 - (lg_sl ([.ref h0, .int x0, .int 9])).length) Slot.unset).toArray = ls at hl ⊢
  have hl : lv_has ls 4 [(0, .ref h0), (1, .int x0), (2, .int 9)] := hl
  refine lv_iload_n hx hb dX9_word_0 rfl (lv_at hl 1 rfl) ?_
  refine lv_if_lt (tgt := 10) hx hb dX9_word_1 (by decide) (fun c1 => ?_) (fun c1 => absurd (Int32.lt_iff_toInt_lt.mpr (show x0.toInt < (0 : Int) by omega)) c1)
  exact vx_throwS hx hb hlt (text := "letter is 0 to 25") (sa := (g 10)) (names := ["java/lang/RuntimeException", "java/lang/Exception"]) hown (by decide) (by decide) (hts (.classLink RX9 100 "java/lang/IllegalArgumentException") (by decide +kernel)) (hts (.initialized "java/lang/IllegalArgumentException") (by decide +kernel)) (ns_f20 hF) (vx_hat (B := [.declares ⟨"java/lang/RuntimeException", "<init>", "(Ljava/lang/String;)V"⟩, .declares ⟨"java/lang/Exception", "<init>", "(Ljava/lang/String;)V"⟩, .declares ⟨"java/lang/Throwable", "<init>", "(Ljava/lang/String;)V"⟩, .castable "java/lang/IllegalArgumentException" "java/lang/IllegalArgumentException"]) (fun w9 h9 => hts w9 (List.mem_cons_of_mem _ ((fun h9 => List.mem_append_left _ (List.mem_append_left _ (List.mem_append_right _ h9))) h9))) (by decide +kernel) (vx_c (va_Nw.use rfl (ns_f12 hF)) (vx_c (va_Nw.use rfl (ns_f13 hF)) (vx_c (va_Nw.use rfl (ns_f14 hF)) (vx_c (va_Nw.use rfl (ns_f11 hF)) vx_n))))) (by decide +kernel) (ns_f17 hF) (ns_f18 hF) hS (by rw [hml]; exact hl.1) dX9_word_10 dX9_word_13 dX9_word_14 dX9_word_16 dX9_word_19 (fun x hx => (hnox x hx).elim) (Nat.le_of_ble_eq_true rfl) (Nat.le_of_ble_eq_true rfl) (Nat.le_of_ble_eq_true rfl) (Nat.le_of_ble_eq_true rfl) hlocks (fun t9 hal hsz9 hk9 => ⟨(), trivial, rfl, Nat.le_trans hS.1 hsz9, fun q hq1 hq2 => (hk9 q (Nat.lt_of_lt_of_le hq1 hS.1)).trans (hS.2.1 q hq1 hq2)⟩) hS.2.2 (Nat.le_of_ble_eq_true rfl) (Nat.le_of_ble_eq_true rfl)
set_option maxHeartbeats 4000000 in
set_option maxRecDepth 100000 in
theorem kL_word_10 (l : Launch) (dC : Nat → ClassId) (dI : Nat → Nat → Nat) (g : Nat → Nat) (sz : Nat) (h0 : Nat) (x0 : Int32) (h1 : Nat) (v0 : Value) (v1 : Value) (v2 : Value) (v3 : Value) (v4 : Value) (v5 : Value) (v6 : Value) (v7 : Value) (v8 : Value) (v9 : Value) (v10 : Value) (v11 : Value) (v12 : Value) (v13 : Value) (v14 : Value) (v15 : Value) (ex0 : (-2147483648 : Int) ≤ x0.toInt ∧ x0.toInt ≤ (-1 : Int)) (hlt : l.stackTraces = false) : Met l yL_word wsL_word ({ frames := 7, cells := 1, slots := 6, locals := 105 }) (va_Pc [.ref h0, .int x0, .int 9, .ref h1] (fun U => U.heap.size = sz ∧ va_P (dC, dI) vwCl [(h0, .inr (16, [v0, v1, v2, v3, v4, v5, v6, v7, v8, v9, v10, v11, v12, v13, v14, v15]))] U.heap ∧ va_K (dC, dI) vwCl [] U ∧ va_D (fun _ => True) [(h0, .inr (16, [v0, v1, v2, v3, v4, v5, v6, v7, v8, v9, v10, v11, v12, v13, v14, v15]))] ∧ ns_F g (va_A [(h0, .inr (16, [v0, v1, v2, v3, v4, v5, v6, v7, v8, v9, v10, v11, v12, v13, v14, v15]))] sz) U U.heap)) (va_Qi (fun (r : Int32) (_ : Unit) => r = 1) (fun _ t => va_P (dC, dI) vwCl [(h0, .inr (16, [v0, v1, v2, v3, v4, v5, v6, v7, v8, v9, v10, v11, v12, v13, v14, v15]))] t.heap ∧ va_K (dC, dI) vwCl [] t ∧ va_D (va_A [(h0, .inr (16, [v0, v1, v2, v3, v4, v5, v6, v7, v8, v9, v10, v11, v12, v13, v14, v15]))] sz) [(h0, .inr (16, [v0, v1, v2, v3, v4, v5, v6, v7, v8, v9, v10, v11, v12, v13, v14, v15]))]) (va_A [(h0, .inr (16, [v0, v1, v2, v3, v4, v5, v6, v7, v8, v9, v10, v11, v12, v13, v14, v15]))] sz)) 1 6 (va_A [(h0, .inr (16, [v0, v1, v2, v3, v4, v5, v6, v7, v8, v9, v10, v11, v12, v13, v14, v15]))] sz) := by
  refine va_MetW (cc := cL_word) (maxL := 5) (ret := (some .int)) (hh := [(0, 11, 14, 19), (0, 11, 18, 21)]) (by decide) rfl ?_
  intro p e s m args below meth c s₁ B hml hv
  obtain ⟨rfl, hsz, hP, hK, hD0, hF⟩ := hv
  have hx := B.exec
  have hb := B.bytes
  have hr := B.returns
  have hts := atoms_spec (ws := wsL_word) B.pre
  have hown : s.vm.findClass RL = some m.cls := findClass_of_methodNamed B.named
  have hlocks := B.notSynchronized
  have htab : c.exceptionTable.toList = [⟨0, 11, 14, 19⟩, ⟨0, 11, 18, 21⟩] := vx_table B (hts _ List.mem_cons_self)
  subst hsz
  have hD := hD0.self (sz := s.heap.size)
  generalize hAe : va_A [(h0, .inr (16, [v0, v1, v2, v3, v4, v5, v6, v7, v8, v9, v10, v11, v12, v13, v14, v15]))] s.heap.size = A at hD hF ⊢
  have hA : ∀ q : Nat, s.heap.size ≤ q → A q := fun q h => by rw [← hAe]; exact Or.inr h
  have hS : va_S A s.heap s.heap [] := va_S.rf
  have hP : va_P (dC, dI) vwCl [(h0, .inr (16, [v0, v1, v2, v3, v4, v5, v6, v7, v8, v9, v10, v11, v12, v13, v14, v15]))] s.heap := hP
  have hl := lv_entry ([.ref h0, .int x0, .int 9, .ref h1]) (n := 5) (Nat.le_of_ble_eq_true rfl)
  rw [lg_entry_eq]
  generalize (lg_sl ([.ref h0, .int x0, .int 9, .ref h1]) ++ List.replicate (5 - (lg_sl ([.ref h0, .int x0, .int 9, .ref h1])).length) Slot.unset).toArray = ls at hl ⊢
  have hl : lv_has ls 5 [(0, .ref h0), (1, .int x0), (2, .int 9), (3, .ref h1)] := hl
  refine lv_aload_n hx hb dL_word_0 rfl (lv_at hl 3 rfl) ?_
  refine lv_aload_n hx hb dL_word_1 rfl (lv_at hl 0 rfl) ?_
  refine lv_iload_n hx hb dL_word_2 rfl (lv_at hl 1 rfl) ?_
  refine lv_iload_n hx hb dL_word_3 rfl (lv_at hl 2 rfl) ?_
  have hPc := hP.sub (ws' := []) [] rfl
  have hDc := hD.sub (ws' := []) [] (by decide) rfl
  have hKc := hK.sub (tys' := []) [] rfl
  have hFc := va_free (wc := []) hD hS hA [] rfl
  refine vx_callv (vx_runV (As := [.int x0, .int 9]) (rest := [.ref h1]) ⟨hx, hb, hml, hown, hts⟩ (kX9_word_10 l dC dI g s.heap.size h0 x0 ⟨by omega, by omega⟩ hlt) (cwV 2 hts gL_word_X9_word rfl rfl rfl (by decide +kernel) ⟨Nat.le_of_ble_eq_true rfl, Nat.le_of_ble_eq_true rfl⟩) ⟨fun a U gg mk q => by obtain ⟨q0, q1, qP, qK, qD, qF⟩ := q; exact ⟨q0, q1, qP, va_K.moved (u := U) (U := U.calling gg mk a) (Vm.Alike.refl U.vm) qK, qD, ns_same qF⟩, va_recv hK hP (ci := 16) (q0 := 0) rfl rfl, fun U hU hW => ⟨rfl, by rw [hU], by rw [hU]; exact hPc, va_K.moved hW.alike hKc, hDc.weaken (fun _ _ _ _ => trivial), ns_call hF hS hFc hU hW⟩⟩ rfl rfl hl.1 rfl (lv_room (Nat.le_of_ble_eq_true rfl)) dL_word_4 ⟨Nat.le_of_ble_eq_true rfl, Nat.le_of_ble_eq_true rfl⟩) hS (fun q _ h => hFc q h) hFc (fun q _ h => hFc q h) (fun E ce q9 u t H1 locs ht hvm hw hB hz1 hk1 hS hc1 hc2 hc3 => ?_) (fun _ _ _ _ _ _ hw _ _ _ _ => False.elim hw)
  obtain rfl : E = "java/lang/IllegalArgumentException" := hB
  obtain ⟨hP, hD⟩ := va_join (wr := [(h0, .inr (16, [v0, v1, v2, v3, v4, v5, v6, v7, v8, v9, v10, v11, v12, v13, v14, v15]))]) (w1 := []) hP hD [] [0] rfl rfl (by decide) (by decide) hk1 hFc (fun k q h => by simp at h) ⟨fun i j p q h => by simp at h, fun k q h => by simp at h⟩
  have hK := hK.sub (tys' := []) [] rfl
  generalize H1 = H at hP hS hc1 ⊢
  have hP : va_P (dC, dI) vwCl [(h0, .inr (16, [v0, v1, v2, v3, v4, v5, v6, v7, v8, v9, v10, v11, v12, v13, v14, v15]))] H := hP
  have hD : va_D A [(h0, .inr (16, [v0, v1, v2, v3, v4, v5, v6, v7, v8, v9, v10, v11, v12, v13, v14, v15]))] := hD
  have hK : va_K (dC, dI) vwCl [] s := hK
  refine vx_widen (k := 1) (n := 6) (Nat.le_of_ble_eq_true rfl) (Nat.le_of_ble_eq_true rfl) ?_
  refine vx_catch hown [] ⟨0, 11, 14, 19⟩ [⟨0, 11, 18, 21⟩] htab (fun z hz => by simp at hz) (by decide) (by decide) (hts (.classLink RL 19 "java/lang/IllegalArgumentException") (by decide +kernel)) (va_Nw.use rfl (ns_f11 hF)) hc1 hc2 hc3 ?_
  refine W.eq (g2 := F0 m 14 ls [.ref q9]) rfl ?_
  refine lv_astore (lv' := [(4, .ref q9), (0, .ref h0), (1, .int x0), (2, .int 9), (3, .ref h1)]) hx hb dL_word_14 hl (by decide) rfl (fun ls hl => ?_)
  refine lv_iconst (v := 1) hx hb dL_word_16 (by decide) ?_
  have hP9 := hP.sub (ws' := [(h0, .inr (16, [v0, v1, v2, v3, v4, v5, v6, v7, v8, v9, v10, v11, v12, v13, v14, v15]))]) [0] rfl
  have hD9 := hD.sub (ws' := [(h0, .inr (16, [v0, v1, v2, v3, v4, v5, v6, v7, v8, v9, v10, v11, v12, v13, v14, v15]))]) [0] (by decide) rfl
  have hK9 := hK.sub (tys' := []) [] rfl
  refine W.widen (k := 1) (n := 6) (Nat.le_of_ble_eq_true rfl) (Nat.le_of_ble_eq_true rfl) ?_
  exact W.iret (v := 1) hx hb hr (fun t ht hW => ⟨⟨_, (), rfl, rfl, by rw [ht]; exact hP9, va_K.moved hW.alike hK9, hD9⟩, hS.F ht⟩) hS.2.2 dL_word_17
set_option maxHeartbeats 4000000 in
set_option maxRecDepth 100000 in
theorem kX16_word_10 (l : Launch) (dC : Nat → ClassId) (dI : Nat → Nat → Nat) (g : Nat → Nat) (sz : Nat) (h0 : Nat) (x0 : Int32) (v0 : Value) (v1 : Value) (v2 : Value) (v3 : Value) (v4 : Value) (v5 : Value) (v6 : Value) (v7 : Value) (v8 : Value) (ex0 : (-2147483648 : Int) ≤ x0.toInt ∧ x0.toInt ≤ (-1 : Int)) : Met l yX16_word wsX16_word ({ frames := 2, cells := 0, slots := 0, locals := 44 }) (va_Pc [.ref h0, .int x0, .int 9] (fun U => U.heap.size = sz ∧ va_P (dC, dI) vwCl [(h0, .inr (23, [v0, v1, v2, v3, v4, v5, v6, v7, v8]))] U.heap ∧ va_K (dC, dI) vwCl [] U ∧ va_D (fun _ => True) [(h0, .inr (23, [v0, v1, v2, v3, v4, v5, v6, v7, v8]))] ∧ ns_F g (va_A [(h0, .inr (23, [v0, v1, v2, v3, v4, v5, v6, v7, v8]))] sz) U U.heap)) (va_Qi (fun (r : Int32) (_ : Unit) => r = 0) (fun _ t => va_P (dC, dI) vwCl [(h0, .inr (23, [.int 1, v1, v2, v3, v4, v5, v6, v7, v8]))] t.heap ∧ va_K (dC, dI) vwCl [] t ∧ va_D (va_A [(h0, .inr (23, [v0, v1, v2, v3, v4, v5, v6, v7, v8]))] sz) [(h0, .inr (23, [.int 1, v1, v2, v3, v4, v5, v6, v7, v8]))]) (va_A [(h0, .inr (23, [v0, v1, v2, v3, v4, v5, v6, v7, v8]))] sz)) 0 0 (va_A [(h0, .inr (23, [v0, v1, v2, v3, v4, v5, v6, v7, v8]))] sz) := by
  refine Met.ofW (cc := cX16_word) (maxL := 5) (ret := (some .int)) (by decide) rfl ?_
  intro p e s m args below meth c s₁ B hml hv
  obtain ⟨rfl, hsz, hP, hK, hD0, hF⟩ := hv
  have hx := B.exec
  have hb := B.bytes
  have hr := B.returns
  have hts := atoms_spec (ws := wsX16_word) B.pre
  have hown : s.vm.findClass RX16 = some m.cls := findClass_of_methodNamed B.named
  have hlocks := B.notSynchronized
  subst hsz
  have hD := hD0.self (sz := s.heap.size)
  generalize hAe : va_A [(h0, .inr (23, [v0, v1, v2, v3, v4, v5, v6, v7, v8]))] s.heap.size = A at hD hF ⊢
  have hA : ∀ q : Nat, s.heap.size ≤ q → A q := fun q h => by rw [← hAe]; exact Or.inr h
  have hS : va_S A s.heap s.heap [] := va_S.rf
  have hP : va_P (dC, dI) vwCl [(h0, .inr (23, [v0, v1, v2, v3, v4, v5, v6, v7, v8]))] s.heap := hP
  have hl := lv_entry ([.ref h0, .int x0, .int 9]) (n := 5) (Nat.le_of_ble_eq_true rfl)
  rw [lg_entry_eq]
  generalize (lg_sl ([.ref h0, .int x0, .int 9]) ++ List.replicate (5 - (lg_sl ([.ref h0, .int x0, .int 9])).length) Slot.unset).toArray = ls at hl ⊢
  have hl : lv_has ls 5 [(0, .ref h0), (1, .int x0), (2, .int 9)] := hl
  refine lv_aload_n hx hb dX16_word_0 rfl (lv_at hl 0 rfl) ?_
  refine lv_iload_n hx hb dX16_word_1 rfl (lv_at hl 1 rfl) ?_
  refine lv_iconst (v := 0) hx hb dX16_word_2 (by decide) ?_
  refine lv_bipush (v := 25) hx hb dX16_word_3 (by decide) ?_
  have hPc := hP.sub (ws' := []) [] rfl
  have hDc := hD.sub (ws' := []) [] (by decide) rfl
  have hKc := hK.sub (tys' := []) [] rfl
  have hFc := va_free (wc := []) hD hS hA [] rfl
  refine va_calli (va_runS (As := [.int x0, .int 0, .int 25]) (rest := [.ref h0]) ⟨hx, hb, hml, hown, hts⟩ (kX16_isIn l dC dI g s.heap.size x0 ⟨by omega, by omega⟩) (va_cwS 3 hts gX16_word_X16_isIn rfl rfl rfl (by decide +kernel) ⟨Nat.le_of_ble_eq_true rfl, Nat.le_of_ble_eq_true rfl⟩) ⟨fun a U gg mk q => by obtain ⟨q0, q1, qP, qK, qD, qF⟩ := q; exact ⟨q0, q1, qP, va_K.moved (u := U) (U := U.calling gg mk a) (Vm.Alike.refl U.vm) qK, qD, ns_same qF⟩, fun U hU hW => ⟨rfl, by rw [hU], by rw [hU]; exact hPc, va_K.moved hW.alike hKc, hDc.weaken (fun _ _ _ _ => trivial), ns_call hF hS hFc hU hW⟩⟩ rfl rfl hl.1 rfl (lv_room (Nat.le_of_ble_eq_true rfl)) dX16_word_5 ⟨Nat.le_of_ble_eq_true rfl, Nat.le_of_ble_eq_true rfl⟩) hS (fun q _ h => hFc q h) hFc (fun r9 u t H1 locs ht hvm hw hB hz1 hk1 hS => ?_)
  obtain rfl := hw
  obtain ⟨hP1, hK1, hD1⟩ := hB
  rw [ht] at hP1
  have hK1 := va_K.moved hvm.symm hK1
  obtain ⟨hP, hD⟩ := va_join (wr := [(h0, .inr (23, [v0, v1, v2, v3, v4, v5, v6, v7, v8]))]) (w1 := []) hP hD [] [0] rfl rfl (by decide) (by decide) hk1 hFc hP1 hD1
  have hK := (hK.sub (tys' := []) [] rfl).app hK1
  generalize H1 = H at hP hS ⊢
  have hP : va_P (dC, dI) vwCl [(h0, .inr (23, [v0, v1, v2, v3, v4, v5, v6, v7, v8]))] H := hP
  have hD : va_D A [(h0, .inr (23, [v0, v1, v2, v3, v4, v5, v6, v7, v8]))] := hD
  have hK : va_K (dC, dI) vwCl [] s := hK
  refine W.widen (k := 0) (n := 0) (Nat.le_of_ble_eq_true rfl) (Nat.le_of_ble_eq_true rfl) ?_
  refine lv_if_eq (tgt := 21) hx hb dX16_word_8 (by decide) (fun c1 => ?_) (fun c1 => absurd (by decide) c1)
  refine lv_iconst (v := 1) hx hb dX16_word_21 (by decide) ?_
  refine lv_goto (tgt := 26) hx hb dX16_word_22 (by decide) ?_
  refine lv_iconst (v := 1) hx hb dX16_word_26 (by decide) ?_
  have hPc := hP.sub (ws' := [(h0, .inr (23, [v0, v1, v2, v3, v4, v5, v6, v7, v8]))]) [0] rfl
  have hDc := hD.sub (ws' := [(h0, .inr (23, [v0, v1, v2, v3, v4, v5, v6, v7, v8]))]) [0] (by decide) rfl
  have hKc := hK.sub (tys' := []) [] rfl
  have hFc := va_free (wc := [(h0, .inr (23, [v0, v1, v2, v3, v4, v5, v6, v7, v8]))]) hD hS hA [0] rfl
  refine va_calli (va_runV (As := [.int 1, .int 1]) (rest := []) ⟨hx, hb, hml, hown, hts⟩ (kX16_start l dC dI g H.size h0 v0 v1 v2 v3 v4 v5 v6 v7 v8 ) (cwV 2 hts gX16_word_X16_start rfl rfl rfl (by decide +kernel) ⟨Nat.le_of_ble_eq_true rfl, Nat.le_of_ble_eq_true rfl⟩) ⟨fun a U gg mk q => by obtain ⟨q0, q1, qP, qK, qD, qF⟩ := q; exact ⟨q0, q1, qP, va_K.moved (u := U) (U := U.calling gg mk a) (Vm.Alike.refl U.vm) qK, qD, ns_same qF⟩, va_recv hK hP (ci := 23) (q0 := 0) rfl rfl, fun U hU hW => ⟨rfl, by rw [hU], by rw [hU]; exact hPc, va_K.moved hW.alike hKc, hDc.weaken (fun _ _ _ _ => trivial), ns_call hF hS hFc hU hW⟩⟩ rfl rfl hl.1 rfl (lv_room (Nat.le_of_ble_eq_true rfl)) dX16_word_27 ⟨Nat.le_of_ble_eq_true rfl, Nat.le_of_ble_eq_true rfl⟩) hS (fun q _ h => hFc q h) hFc (fun r9 u t H1 locs ht hvm hw hB hz1 hk1 hS => ?_)
  obtain rfl := hw
  obtain ⟨hP1, hK1, hD1⟩ := hB
  rw [ht] at hP1
  have hK1 := va_K.moved hvm.symm hK1
  obtain ⟨hP, hD⟩ := va_join (wr := []) (w1 := [(h0, .inr (23, [.int 1, v1, v2, v3, v4, v5, v6, v7, v8]))]) hP hD [0] [] rfl rfl (by decide) (by decide) hk1 hFc hP1 hD1
  have hK := (hK.sub (tys' := []) [] rfl).app hK1
  generalize H1 = H at hP hS ⊢
  have hP : va_P (dC, dI) vwCl [(h0, .inr (23, [.int 1, v1, v2, v3, v4, v5, v6, v7, v8]))] H := hP
  have hD : va_D A [(h0, .inr (23, [.int 1, v1, v2, v3, v4, v5, v6, v7, v8]))] := hD
  have hK : va_K (dC, dI) vwCl [] s := hK
  refine W.widen (k := 0) (n := 0) (Nat.le_of_ble_eq_true rfl) (Nat.le_of_ble_eq_true rfl) ?_
  refine lv_if_ne (tgt := 45) hx hb dX16_word_30 (by decide) (fun c2 => ?_) (fun c2 => absurd c2 (by decide))
  refine lv_iconst (v := 0) hx hb dX16_word_45 (by decide) ?_
  have hP9 := hP.sub (ws' := [(h0, .inr (23, [.int 1, v1, v2, v3, v4, v5, v6, v7, v8]))]) [0] rfl
  have hD9 := hD.sub (ws' := [(h0, .inr (23, [.int 1, v1, v2, v3, v4, v5, v6, v7, v8]))]) [0] (by decide) rfl
  have hK9 := hK.sub (tys' := []) [] rfl
  refine W.widen (k := 0) (n := 0) (Nat.le_of_ble_eq_true rfl) (Nat.le_of_ble_eq_true rfl) ?_
  exact W.iret (v := 0) hx hb hr (fun t ht hW => ⟨⟨_, (), rfl, rfl, by rw [ht]; exact hP9, va_K.moved hW.alike hK9, hD9⟩, hS.F ht⟩) hS.2.2 dX16_word_46
set_option maxHeartbeats 4000000 in
set_option maxRecDepth 100000 in
theorem kX9_word_11 (l : Launch) (dC : Nat → ClassId) (dI : Nat → Nat → Nat) (g : Nat → Nat) (sz : Nat) (h0 : Nat) (x0 : Int32) (x1 : Int32) (ex0 : (-2147483648 : Int) ≤ x0.toInt ∧ x0.toInt ≤ (-1 : Int)) (ex1 : (10 : Int) ≤ x1.toInt ∧ x1.toInt ≤ (2147483647 : Int)) (hlt : l.stackTraces = false) : vx_Met l yX9_word wsX9_word ({ frames := 6, cells := 1, slots := 6, locals := 82 }) (va_Pc [.ref h0, .int x0, .int x1] (fun U => U.heap.size = sz ∧ va_P (dC, dI) vwCl [] U.heap ∧ va_K (dC, dI) vwCl [] U ∧ va_D (fun _ => True) [] ∧ ns_F g (va_A [] sz) U U.heap)) (va_Qv (fun _ : Unit => False) (fun _ _ => True) (va_A [] sz)) (vx_X (fun _ : Unit => True) (fun E _ _ => E = "java/lang/IllegalArgumentException") (va_A [] sz)) 1 6 (va_A [] sz) := by
  refine vx_ofW (cc := cX9_word) (maxL := 4) (ret := (some .int)) (by decide) rfl ?_
  intro p e s m args below meth c s₁ B hml hnox hv
  obtain ⟨rfl, hsz, hP, hK, hD0, hF⟩ := hv
  have hx := B.exec
  have hb := B.bytes
  have hr := B.returns
  have hts := atoms_spec (ws := wsX9_word) B.pre
  have hown : s.vm.findClass RX9 = some m.cls := findClass_of_methodNamed B.named
  have hlocks := B.notSynchronized
  subst hsz
  have hD := hD0.self (sz := s.heap.size)
  generalize hAe : va_A [] s.heap.size = A at hD hF ⊢
  have hA : ∀ q : Nat, s.heap.size ≤ q → A q := fun q h => by rw [← hAe]; exact Or.inr h
  have hS : va_S A s.heap s.heap [] := va_S.rf
  have hP : va_P (dC, dI) vwCl [] s.heap := hP
  have hl := lv_entry ([.ref h0, .int x0, .int x1]) (n := 4) (Nat.le_of_ble_eq_true rfl)
  rw [lg_entry_eq]
  generalize (lg_sl ([.ref h0, .int x0, .int x1]) ++ List.replicate (4 - (lg_sl ([.ref h0, .int x0, .int x1])).length) Slot.unset).toArray = ls at hl ⊢
  have hl : lv_has ls 4 [(0, .ref h0), (1, .int x0), (2, .int x1)] := hl
  refine lv_iload_n hx hb dX9_word_0 rfl (lv_at hl 1 rfl) ?_
  refine lv_if_lt (tgt := 10) hx hb dX9_word_1 (by decide) (fun c1 => ?_) (fun c1 => absurd (Int32.lt_iff_toInt_lt.mpr (show x0.toInt < (0 : Int) by omega)) c1)
  exact vx_throwS hx hb hlt (text := "letter is 0 to 25") (sa := (g 10)) (names := ["java/lang/RuntimeException", "java/lang/Exception"]) hown (by decide) (by decide) (hts (.classLink RX9 100 "java/lang/IllegalArgumentException") (by decide +kernel)) (hts (.initialized "java/lang/IllegalArgumentException") (by decide +kernel)) (ns_f20 hF) (vx_hat (B := [.declares ⟨"java/lang/RuntimeException", "<init>", "(Ljava/lang/String;)V"⟩, .declares ⟨"java/lang/Exception", "<init>", "(Ljava/lang/String;)V"⟩, .declares ⟨"java/lang/Throwable", "<init>", "(Ljava/lang/String;)V"⟩, .castable "java/lang/IllegalArgumentException" "java/lang/IllegalArgumentException"]) (fun w9 h9 => hts w9 (List.mem_cons_of_mem _ ((fun h9 => List.mem_append_left _ (List.mem_append_left _ (List.mem_append_right _ h9))) h9))) (by decide +kernel) (vx_c (va_Nw.use rfl (ns_f12 hF)) (vx_c (va_Nw.use rfl (ns_f13 hF)) (vx_c (va_Nw.use rfl (ns_f14 hF)) (vx_c (va_Nw.use rfl (ns_f11 hF)) vx_n))))) (by decide +kernel) (ns_f17 hF) (ns_f18 hF) hS (by rw [hml]; exact hl.1) dX9_word_10 dX9_word_13 dX9_word_14 dX9_word_16 dX9_word_19 (fun x hx => (hnox x hx).elim) (Nat.le_of_ble_eq_true rfl) (Nat.le_of_ble_eq_true rfl) (Nat.le_of_ble_eq_true rfl) (Nat.le_of_ble_eq_true rfl) hlocks (fun t9 hal hsz9 hk9 => ⟨(), trivial, rfl, Nat.le_trans hS.1 hsz9, fun q hq1 hq2 => (hk9 q (Nat.lt_of_lt_of_le hq1 hS.1)).trans (hS.2.1 q hq1 hq2)⟩) hS.2.2 (Nat.le_of_ble_eq_true rfl) (Nat.le_of_ble_eq_true rfl)
set_option maxHeartbeats 4000000 in
set_option maxRecDepth 100000 in
theorem kL_word_11 (l : Launch) (dC : Nat → ClassId) (dI : Nat → Nat → Nat) (g : Nat → Nat) (sz : Nat) (h0 : Nat) (x0 : Int32) (x1 : Int32) (h1 : Nat) (v0 : Value) (v1 : Value) (v2 : Value) (v3 : Value) (v4 : Value) (v5 : Value) (v6 : Value) (v7 : Value) (v8 : Value) (v9 : Value) (v10 : Value) (v11 : Value) (v12 : Value) (v13 : Value) (v14 : Value) (v15 : Value) (ex0 : (-2147483648 : Int) ≤ x0.toInt ∧ x0.toInt ≤ (-1 : Int)) (ex1 : (10 : Int) ≤ x1.toInt ∧ x1.toInt ≤ (2147483647 : Int)) (hlt : l.stackTraces = false) : Met l yL_word wsL_word ({ frames := 7, cells := 1, slots := 6, locals := 105 }) (va_Pc [.ref h0, .int x0, .int x1, .ref h1] (fun U => U.heap.size = sz ∧ va_P (dC, dI) vwCl [(h0, .inr (16, [v0, v1, v2, v3, v4, v5, v6, v7, v8, v9, v10, v11, v12, v13, v14, v15]))] U.heap ∧ va_K (dC, dI) vwCl [] U ∧ va_D (fun _ => True) [(h0, .inr (16, [v0, v1, v2, v3, v4, v5, v6, v7, v8, v9, v10, v11, v12, v13, v14, v15]))] ∧ ns_F g (va_A [(h0, .inr (16, [v0, v1, v2, v3, v4, v5, v6, v7, v8, v9, v10, v11, v12, v13, v14, v15]))] sz) U U.heap)) (va_Qi (fun (r : Int32) (_ : Unit) => r = 1) (fun _ t => va_P (dC, dI) vwCl [(h0, .inr (16, [v0, v1, v2, v3, v4, v5, v6, v7, v8, v9, v10, v11, v12, v13, v14, v15]))] t.heap ∧ va_K (dC, dI) vwCl [] t ∧ va_D (va_A [(h0, .inr (16, [v0, v1, v2, v3, v4, v5, v6, v7, v8, v9, v10, v11, v12, v13, v14, v15]))] sz) [(h0, .inr (16, [v0, v1, v2, v3, v4, v5, v6, v7, v8, v9, v10, v11, v12, v13, v14, v15]))]) (va_A [(h0, .inr (16, [v0, v1, v2, v3, v4, v5, v6, v7, v8, v9, v10, v11, v12, v13, v14, v15]))] sz)) 1 6 (va_A [(h0, .inr (16, [v0, v1, v2, v3, v4, v5, v6, v7, v8, v9, v10, v11, v12, v13, v14, v15]))] sz) := by
  refine va_MetW (cc := cL_word) (maxL := 5) (ret := (some .int)) (hh := [(0, 11, 14, 19), (0, 11, 18, 21)]) (by decide) rfl ?_
  intro p e s m args below meth c s₁ B hml hv
  obtain ⟨rfl, hsz, hP, hK, hD0, hF⟩ := hv
  have hx := B.exec
  have hb := B.bytes
  have hr := B.returns
  have hts := atoms_spec (ws := wsL_word) B.pre
  have hown : s.vm.findClass RL = some m.cls := findClass_of_methodNamed B.named
  have hlocks := B.notSynchronized
  have htab : c.exceptionTable.toList = [⟨0, 11, 14, 19⟩, ⟨0, 11, 18, 21⟩] := vx_table B (hts _ List.mem_cons_self)
  subst hsz
  have hD := hD0.self (sz := s.heap.size)
  generalize hAe : va_A [(h0, .inr (16, [v0, v1, v2, v3, v4, v5, v6, v7, v8, v9, v10, v11, v12, v13, v14, v15]))] s.heap.size = A at hD hF ⊢
  have hA : ∀ q : Nat, s.heap.size ≤ q → A q := fun q h => by rw [← hAe]; exact Or.inr h
  have hS : va_S A s.heap s.heap [] := va_S.rf
  have hP : va_P (dC, dI) vwCl [(h0, .inr (16, [v0, v1, v2, v3, v4, v5, v6, v7, v8, v9, v10, v11, v12, v13, v14, v15]))] s.heap := hP
  have hl := lv_entry ([.ref h0, .int x0, .int x1, .ref h1]) (n := 5) (Nat.le_of_ble_eq_true rfl)
  rw [lg_entry_eq]
  generalize (lg_sl ([.ref h0, .int x0, .int x1, .ref h1]) ++ List.replicate (5 - (lg_sl ([.ref h0, .int x0, .int x1, .ref h1])).length) Slot.unset).toArray = ls at hl ⊢
  have hl : lv_has ls 5 [(0, .ref h0), (1, .int x0), (2, .int x1), (3, .ref h1)] := hl
  refine lv_aload_n hx hb dL_word_0 rfl (lv_at hl 3 rfl) ?_
  refine lv_aload_n hx hb dL_word_1 rfl (lv_at hl 0 rfl) ?_
  refine lv_iload_n hx hb dL_word_2 rfl (lv_at hl 1 rfl) ?_
  refine lv_iload_n hx hb dL_word_3 rfl (lv_at hl 2 rfl) ?_
  have hPc := hP.sub (ws' := []) [] rfl
  have hDc := hD.sub (ws' := []) [] (by decide) rfl
  have hKc := hK.sub (tys' := []) [] rfl
  have hFc := va_free (wc := []) hD hS hA [] rfl
  refine vx_callv (vx_runV (As := [.int x0, .int x1]) (rest := [.ref h1]) ⟨hx, hb, hml, hown, hts⟩ (kX9_word_11 l dC dI g s.heap.size h0 x0 x1 ⟨by omega, by omega⟩ ⟨by omega, by omega⟩ hlt) (cwV 2 hts gL_word_X9_word rfl rfl rfl (by decide +kernel) ⟨Nat.le_of_ble_eq_true rfl, Nat.le_of_ble_eq_true rfl⟩) ⟨fun a U gg mk q => by obtain ⟨q0, q1, qP, qK, qD, qF⟩ := q; exact ⟨q0, q1, qP, va_K.moved (u := U) (U := U.calling gg mk a) (Vm.Alike.refl U.vm) qK, qD, ns_same qF⟩, va_recv hK hP (ci := 16) (q0 := 0) rfl rfl, fun U hU hW => ⟨rfl, by rw [hU], by rw [hU]; exact hPc, va_K.moved hW.alike hKc, hDc.weaken (fun _ _ _ _ => trivial), ns_call hF hS hFc hU hW⟩⟩ rfl rfl hl.1 rfl (lv_room (Nat.le_of_ble_eq_true rfl)) dL_word_4 ⟨Nat.le_of_ble_eq_true rfl, Nat.le_of_ble_eq_true rfl⟩) hS (fun q _ h => hFc q h) hFc (fun q _ h => hFc q h) (fun E ce q9 u t H1 locs ht hvm hw hB hz1 hk1 hS hc1 hc2 hc3 => ?_) (fun _ _ _ _ _ _ hw _ _ _ _ => False.elim hw)
  obtain rfl : E = "java/lang/IllegalArgumentException" := hB
  obtain ⟨hP, hD⟩ := va_join (wr := [(h0, .inr (16, [v0, v1, v2, v3, v4, v5, v6, v7, v8, v9, v10, v11, v12, v13, v14, v15]))]) (w1 := []) hP hD [] [0] rfl rfl (by decide) (by decide) hk1 hFc (fun k q h => by simp at h) ⟨fun i j p q h => by simp at h, fun k q h => by simp at h⟩
  have hK := hK.sub (tys' := []) [] rfl
  generalize H1 = H at hP hS hc1 ⊢
  have hP : va_P (dC, dI) vwCl [(h0, .inr (16, [v0, v1, v2, v3, v4, v5, v6, v7, v8, v9, v10, v11, v12, v13, v14, v15]))] H := hP
  have hD : va_D A [(h0, .inr (16, [v0, v1, v2, v3, v4, v5, v6, v7, v8, v9, v10, v11, v12, v13, v14, v15]))] := hD
  have hK : va_K (dC, dI) vwCl [] s := hK
  refine vx_widen (k := 1) (n := 6) (Nat.le_of_ble_eq_true rfl) (Nat.le_of_ble_eq_true rfl) ?_
  refine vx_catch hown [] ⟨0, 11, 14, 19⟩ [⟨0, 11, 18, 21⟩] htab (fun z hz => by simp at hz) (by decide) (by decide) (hts (.classLink RL 19 "java/lang/IllegalArgumentException") (by decide +kernel)) (va_Nw.use rfl (ns_f11 hF)) hc1 hc2 hc3 ?_
  refine W.eq (g2 := F0 m 14 ls [.ref q9]) rfl ?_
  refine lv_astore (lv' := [(4, .ref q9), (0, .ref h0), (1, .int x0), (2, .int x1), (3, .ref h1)]) hx hb dL_word_14 hl (by decide) rfl (fun ls hl => ?_)
  refine lv_iconst (v := 1) hx hb dL_word_16 (by decide) ?_
  have hP9 := hP.sub (ws' := [(h0, .inr (16, [v0, v1, v2, v3, v4, v5, v6, v7, v8, v9, v10, v11, v12, v13, v14, v15]))]) [0] rfl
  have hD9 := hD.sub (ws' := [(h0, .inr (16, [v0, v1, v2, v3, v4, v5, v6, v7, v8, v9, v10, v11, v12, v13, v14, v15]))]) [0] (by decide) rfl
  have hK9 := hK.sub (tys' := []) [] rfl
  refine W.widen (k := 1) (n := 6) (Nat.le_of_ble_eq_true rfl) (Nat.le_of_ble_eq_true rfl) ?_
  exact W.iret (v := 1) hx hb hr (fun t ht hW => ⟨⟨_, (), rfl, rfl, by rw [ht]; exact hP9, va_K.moved hW.alike hK9, hD9⟩, hS.F ht⟩) hS.2.2 dL_word_17
set_option maxHeartbeats 4000000 in
set_option maxRecDepth 100000 in
theorem kX16_word_11 (l : Launch) (dC : Nat → ClassId) (dI : Nat → Nat → Nat) (g : Nat → Nat) (sz : Nat) (h0 : Nat) (x0 : Int32) (x1 : Int32) (v0 : Value) (v1 : Value) (v2 : Value) (v3 : Value) (v4 : Value) (v5 : Value) (v6 : Value) (v7 : Value) (v8 : Value) (ex0 : (-2147483648 : Int) ≤ x0.toInt ∧ x0.toInt ≤ (-1 : Int)) (ex1 : (10 : Int) ≤ x1.toInt ∧ x1.toInt ≤ (2147483647 : Int)) : Met l yX16_word wsX16_word ({ frames := 2, cells := 0, slots := 0, locals := 44 }) (va_Pc [.ref h0, .int x0, .int x1] (fun U => U.heap.size = sz ∧ va_P (dC, dI) vwCl [(h0, .inr (23, [v0, v1, v2, v3, v4, v5, v6, v7, v8]))] U.heap ∧ va_K (dC, dI) vwCl [] U ∧ va_D (fun _ => True) [(h0, .inr (23, [v0, v1, v2, v3, v4, v5, v6, v7, v8]))] ∧ ns_F g (va_A [(h0, .inr (23, [v0, v1, v2, v3, v4, v5, v6, v7, v8]))] sz) U U.heap)) (va_Qi (fun (r : Int32) (_ : Unit) => r = 0) (fun _ t => va_P (dC, dI) vwCl [(h0, .inr (23, [.int 1, v1, v2, v3, v4, v5, v6, v7, v8]))] t.heap ∧ va_K (dC, dI) vwCl [] t ∧ va_D (va_A [(h0, .inr (23, [v0, v1, v2, v3, v4, v5, v6, v7, v8]))] sz) [(h0, .inr (23, [.int 1, v1, v2, v3, v4, v5, v6, v7, v8]))]) (va_A [(h0, .inr (23, [v0, v1, v2, v3, v4, v5, v6, v7, v8]))] sz)) 0 0 (va_A [(h0, .inr (23, [v0, v1, v2, v3, v4, v5, v6, v7, v8]))] sz) := by
  refine Met.ofW (cc := cX16_word) (maxL := 5) (ret := (some .int)) (by decide) rfl ?_
  intro p e s m args below meth c s₁ B hml hv
  obtain ⟨rfl, hsz, hP, hK, hD0, hF⟩ := hv
  have hx := B.exec
  have hb := B.bytes
  have hr := B.returns
  have hts := atoms_spec (ws := wsX16_word) B.pre
  have hown : s.vm.findClass RX16 = some m.cls := findClass_of_methodNamed B.named
  have hlocks := B.notSynchronized
  subst hsz
  have hD := hD0.self (sz := s.heap.size)
  generalize hAe : va_A [(h0, .inr (23, [v0, v1, v2, v3, v4, v5, v6, v7, v8]))] s.heap.size = A at hD hF ⊢
  have hA : ∀ q : Nat, s.heap.size ≤ q → A q := fun q h => by rw [← hAe]; exact Or.inr h
  have hS : va_S A s.heap s.heap [] := va_S.rf
  have hP : va_P (dC, dI) vwCl [(h0, .inr (23, [v0, v1, v2, v3, v4, v5, v6, v7, v8]))] s.heap := hP
  have hl := lv_entry ([.ref h0, .int x0, .int x1]) (n := 5) (Nat.le_of_ble_eq_true rfl)
  rw [lg_entry_eq]
  generalize (lg_sl ([.ref h0, .int x0, .int x1]) ++ List.replicate (5 - (lg_sl ([.ref h0, .int x0, .int x1])).length) Slot.unset).toArray = ls at hl ⊢
  have hl : lv_has ls 5 [(0, .ref h0), (1, .int x0), (2, .int x1)] := hl
  refine lv_aload_n hx hb dX16_word_0 rfl (lv_at hl 0 rfl) ?_
  refine lv_iload_n hx hb dX16_word_1 rfl (lv_at hl 1 rfl) ?_
  refine lv_iconst (v := 0) hx hb dX16_word_2 (by decide) ?_
  refine lv_bipush (v := 25) hx hb dX16_word_3 (by decide) ?_
  have hPc := hP.sub (ws' := []) [] rfl
  have hDc := hD.sub (ws' := []) [] (by decide) rfl
  have hKc := hK.sub (tys' := []) [] rfl
  have hFc := va_free (wc := []) hD hS hA [] rfl
  refine va_calli (va_runS (As := [.int x0, .int 0, .int 25]) (rest := [.ref h0]) ⟨hx, hb, hml, hown, hts⟩ (kX16_isIn l dC dI g s.heap.size x0 ⟨by omega, by omega⟩) (va_cwS 3 hts gX16_word_X16_isIn rfl rfl rfl (by decide +kernel) ⟨Nat.le_of_ble_eq_true rfl, Nat.le_of_ble_eq_true rfl⟩) ⟨fun a U gg mk q => by obtain ⟨q0, q1, qP, qK, qD, qF⟩ := q; exact ⟨q0, q1, qP, va_K.moved (u := U) (U := U.calling gg mk a) (Vm.Alike.refl U.vm) qK, qD, ns_same qF⟩, fun U hU hW => ⟨rfl, by rw [hU], by rw [hU]; exact hPc, va_K.moved hW.alike hKc, hDc.weaken (fun _ _ _ _ => trivial), ns_call hF hS hFc hU hW⟩⟩ rfl rfl hl.1 rfl (lv_room (Nat.le_of_ble_eq_true rfl)) dX16_word_5 ⟨Nat.le_of_ble_eq_true rfl, Nat.le_of_ble_eq_true rfl⟩) hS (fun q _ h => hFc q h) hFc (fun r9 u t H1 locs ht hvm hw hB hz1 hk1 hS => ?_)
  obtain rfl := hw
  obtain ⟨hP1, hK1, hD1⟩ := hB
  rw [ht] at hP1
  have hK1 := va_K.moved hvm.symm hK1
  obtain ⟨hP, hD⟩ := va_join (wr := [(h0, .inr (23, [v0, v1, v2, v3, v4, v5, v6, v7, v8]))]) (w1 := []) hP hD [] [0] rfl rfl (by decide) (by decide) hk1 hFc hP1 hD1
  have hK := (hK.sub (tys' := []) [] rfl).app hK1
  generalize H1 = H at hP hS ⊢
  have hP : va_P (dC, dI) vwCl [(h0, .inr (23, [v0, v1, v2, v3, v4, v5, v6, v7, v8]))] H := hP
  have hD : va_D A [(h0, .inr (23, [v0, v1, v2, v3, v4, v5, v6, v7, v8]))] := hD
  have hK : va_K (dC, dI) vwCl [] s := hK
  refine W.widen (k := 0) (n := 0) (Nat.le_of_ble_eq_true rfl) (Nat.le_of_ble_eq_true rfl) ?_
  refine lv_if_eq (tgt := 21) hx hb dX16_word_8 (by decide) (fun c1 => ?_) (fun c1 => absurd (by decide) c1)
  refine lv_iconst (v := 1) hx hb dX16_word_21 (by decide) ?_
  refine lv_goto (tgt := 26) hx hb dX16_word_22 (by decide) ?_
  refine lv_iconst (v := 1) hx hb dX16_word_26 (by decide) ?_
  have hPc := hP.sub (ws' := [(h0, .inr (23, [v0, v1, v2, v3, v4, v5, v6, v7, v8]))]) [0] rfl
  have hDc := hD.sub (ws' := [(h0, .inr (23, [v0, v1, v2, v3, v4, v5, v6, v7, v8]))]) [0] (by decide) rfl
  have hKc := hK.sub (tys' := []) [] rfl
  have hFc := va_free (wc := [(h0, .inr (23, [v0, v1, v2, v3, v4, v5, v6, v7, v8]))]) hD hS hA [0] rfl
  refine va_calli (va_runV (As := [.int 1, .int 1]) (rest := []) ⟨hx, hb, hml, hown, hts⟩ (kX16_start l dC dI g H.size h0 v0 v1 v2 v3 v4 v5 v6 v7 v8 ) (cwV 2 hts gX16_word_X16_start rfl rfl rfl (by decide +kernel) ⟨Nat.le_of_ble_eq_true rfl, Nat.le_of_ble_eq_true rfl⟩) ⟨fun a U gg mk q => by obtain ⟨q0, q1, qP, qK, qD, qF⟩ := q; exact ⟨q0, q1, qP, va_K.moved (u := U) (U := U.calling gg mk a) (Vm.Alike.refl U.vm) qK, qD, ns_same qF⟩, va_recv hK hP (ci := 23) (q0 := 0) rfl rfl, fun U hU hW => ⟨rfl, by rw [hU], by rw [hU]; exact hPc, va_K.moved hW.alike hKc, hDc.weaken (fun _ _ _ _ => trivial), ns_call hF hS hFc hU hW⟩⟩ rfl rfl hl.1 rfl (lv_room (Nat.le_of_ble_eq_true rfl)) dX16_word_27 ⟨Nat.le_of_ble_eq_true rfl, Nat.le_of_ble_eq_true rfl⟩) hS (fun q _ h => hFc q h) hFc (fun r9 u t H1 locs ht hvm hw hB hz1 hk1 hS => ?_)
  obtain rfl := hw
  obtain ⟨hP1, hK1, hD1⟩ := hB
  rw [ht] at hP1
  have hK1 := va_K.moved hvm.symm hK1
  obtain ⟨hP, hD⟩ := va_join (wr := []) (w1 := [(h0, .inr (23, [.int 1, v1, v2, v3, v4, v5, v6, v7, v8]))]) hP hD [0] [] rfl rfl (by decide) (by decide) hk1 hFc hP1 hD1
  have hK := (hK.sub (tys' := []) [] rfl).app hK1
  generalize H1 = H at hP hS ⊢
  have hP : va_P (dC, dI) vwCl [(h0, .inr (23, [.int 1, v1, v2, v3, v4, v5, v6, v7, v8]))] H := hP
  have hD : va_D A [(h0, .inr (23, [.int 1, v1, v2, v3, v4, v5, v6, v7, v8]))] := hD
  have hK : va_K (dC, dI) vwCl [] s := hK
  refine W.widen (k := 0) (n := 0) (Nat.le_of_ble_eq_true rfl) (Nat.le_of_ble_eq_true rfl) ?_
  refine lv_if_ne (tgt := 45) hx hb dX16_word_30 (by decide) (fun c2 => ?_) (fun c2 => absurd c2 (by decide))
  refine lv_iconst (v := 0) hx hb dX16_word_45 (by decide) ?_
  have hP9 := hP.sub (ws' := [(h0, .inr (23, [.int 1, v1, v2, v3, v4, v5, v6, v7, v8]))]) [0] rfl
  have hD9 := hD.sub (ws' := [(h0, .inr (23, [.int 1, v1, v2, v3, v4, v5, v6, v7, v8]))]) [0] (by decide) rfl
  have hK9 := hK.sub (tys' := []) [] rfl
  refine W.widen (k := 0) (n := 0) (Nat.le_of_ble_eq_true rfl) (Nat.le_of_ble_eq_true rfl) ?_
  exact W.iret (v := 0) hx hb hr (fun t ht hW => ⟨⟨_, (), rfl, rfl, by rw [ht]; exact hP9, va_K.moved hW.alike hK9, hD9⟩, hS.F ht⟩) hS.2.2 dX16_word_46
set_option maxHeartbeats 4000000 in
set_option maxRecDepth 100000 in
theorem kX9_word_12 (l : Launch) (dC : Nat → ClassId) (dI : Nat → Nat → Nat) (g : Nat → Nat) (sz : Nat) (h0 : Nat) (x0 : Int32) (x1 : Int32) (ex0 : (0 : Int) ≤ x0.toInt ∧ x0.toInt ≤ (25 : Int)) (ex1 : (-2147483648 : Int) ≤ x1.toInt ∧ x1.toInt ≤ (0 : Int)) (hlt : l.stackTraces = false) : vx_Met l yX9_word wsX9_word ({ frames := 6, cells := 1, slots := 6, locals := 82 }) (va_Pc [.ref h0, .int x0, .int x1] (fun U => U.heap.size = sz ∧ va_P (dC, dI) vwCl [] U.heap ∧ va_K (dC, dI) vwCl [] U ∧ va_D (fun _ => True) [] ∧ ns_F g (va_A [] sz) U U.heap)) (va_Qv (fun _ : Unit => False) (fun _ _ => True) (va_A [] sz)) (vx_X (fun _ : Unit => True) (fun E _ _ => E = "java/lang/IllegalArgumentException") (va_A [] sz)) 1 6 (va_A [] sz) := by
  refine vx_ofW (cc := cX9_word) (maxL := 4) (ret := (some .int)) (by decide) rfl ?_
  intro p e s m args below meth c s₁ B hml hnox hv
  obtain ⟨rfl, hsz, hP, hK, hD0, hF⟩ := hv
  have hx := B.exec
  have hb := B.bytes
  have hr := B.returns
  have hts := atoms_spec (ws := wsX9_word) B.pre
  have hown : s.vm.findClass RX9 = some m.cls := findClass_of_methodNamed B.named
  have hlocks := B.notSynchronized
  subst hsz
  have hD := hD0.self (sz := s.heap.size)
  generalize hAe : va_A [] s.heap.size = A at hD hF ⊢
  have hA : ∀ q : Nat, s.heap.size ≤ q → A q := fun q h => by rw [← hAe]; exact Or.inr h
  have hS : va_S A s.heap s.heap [] := va_S.rf
  have hP : va_P (dC, dI) vwCl [] s.heap := hP
  have hl := lv_entry ([.ref h0, .int x0, .int x1]) (n := 4) (Nat.le_of_ble_eq_true rfl)
  rw [lg_entry_eq]
  generalize (lg_sl ([.ref h0, .int x0, .int x1]) ++ List.replicate (4 - (lg_sl ([.ref h0, .int x0, .int x1])).length) Slot.unset).toArray = ls at hl ⊢
  have hl : lv_has ls 4 [(0, .ref h0), (1, .int x0), (2, .int x1)] := hl
  refine lv_iload_n hx hb dX9_word_0 rfl (lv_at hl 1 rfl) ?_
  refine lv_if_lt (tgt := 10) hx hb dX9_word_1 (by decide) (fun c1 => absurd c1 (fun z => absurd (Int32.lt_iff_toInt_lt.mp z : x0.toInt < (0 : Int)) (by omega))) (fun c1 => ?_)
  refine lv_iload_n hx hb dX9_word_4 rfl (lv_at hl 1 rfl) ?_
  refine lv_bipush (v := 25) hx hb dX9_word_5 (by decide) ?_
  refine lv_icmp_le (tgt := 20) hx hb dX9_word_7 (by decide) (fun c2 => ?_) (fun c2 => absurd (Int32.le_iff_toInt_le.mpr (show x0.toInt ≤ (25 : Int) by omega)) c2)
  refine lv_iload_n hx hb dX9_word_20 rfl (lv_at hl 2 rfl) ?_
  refine lv_iconst (v := 1) hx hb dX9_word_21 (by decide) ?_
  refine lv_icmp_lt (tgt := 31) hx hb dX9_word_22 (by decide) (fun c3 => ?_) (fun c3 => absurd (Int32.lt_iff_toInt_lt.mpr (show x1.toInt < (1 : Int) by omega)) c3)
  exact vx_throwS hx hb hlt (text := "length is 1 to 9") (sa := (g 12)) (names := ["java/lang/RuntimeException", "java/lang/Exception"]) hown (by decide) (by decide) (hts (.classLink RX9 100 "java/lang/IllegalArgumentException") (by decide +kernel)) (hts (.initialized "java/lang/IllegalArgumentException") (by decide +kernel)) (ns_f21 hF) (vx_hat (B := [.declares ⟨"java/lang/RuntimeException", "<init>", "(Ljava/lang/String;)V"⟩, .declares ⟨"java/lang/Exception", "<init>", "(Ljava/lang/String;)V"⟩, .declares ⟨"java/lang/Throwable", "<init>", "(Ljava/lang/String;)V"⟩, .castable "java/lang/IllegalArgumentException" "java/lang/IllegalArgumentException"]) (fun w9 h9 => hts w9 (List.mem_cons_of_mem _ ((fun h9 => List.mem_append_left _ (List.mem_append_left _ (List.mem_append_right _ h9))) h9))) (by decide +kernel) (vx_c (va_Nw.use rfl (ns_f12 hF)) (vx_c (va_Nw.use rfl (ns_f13 hF)) (vx_c (va_Nw.use rfl (ns_f14 hF)) (vx_c (va_Nw.use rfl (ns_f11 hF)) vx_n))))) (by decide +kernel) (ns_f17 hF) (ns_f18 hF) hS (by rw [hml]; exact hl.1) dX9_word_31 dX9_word_34 dX9_word_35 dX9_word_37 dX9_word_40 (fun x hx => (hnox x hx).elim) (Nat.le_of_ble_eq_true rfl) (Nat.le_of_ble_eq_true rfl) (Nat.le_of_ble_eq_true rfl) (Nat.le_of_ble_eq_true rfl) hlocks (fun t9 hal hsz9 hk9 => ⟨(), trivial, rfl, Nat.le_trans hS.1 hsz9, fun q hq1 hq2 => (hk9 q (Nat.lt_of_lt_of_le hq1 hS.1)).trans (hS.2.1 q hq1 hq2)⟩) hS.2.2 (Nat.le_of_ble_eq_true rfl) (Nat.le_of_ble_eq_true rfl)
set_option maxHeartbeats 4000000 in
set_option maxRecDepth 100000 in
theorem kL_word_12 (l : Launch) (dC : Nat → ClassId) (dI : Nat → Nat → Nat) (g : Nat → Nat) (sz : Nat) (h0 : Nat) (x0 : Int32) (x1 : Int32) (h1 : Nat) (v0 : Value) (v1 : Value) (v2 : Value) (v3 : Value) (v4 : Value) (v5 : Value) (v6 : Value) (v7 : Value) (v8 : Value) (v9 : Value) (v10 : Value) (v11 : Value) (v12 : Value) (v13 : Value) (v14 : Value) (v15 : Value) (ex0 : (0 : Int) ≤ x0.toInt ∧ x0.toInt ≤ (25 : Int)) (ex1 : (-2147483648 : Int) ≤ x1.toInt ∧ x1.toInt ≤ (0 : Int)) (hlt : l.stackTraces = false) : Met l yL_word wsL_word ({ frames := 7, cells := 1, slots := 6, locals := 105 }) (va_Pc [.ref h0, .int x0, .int x1, .ref h1] (fun U => U.heap.size = sz ∧ va_P (dC, dI) vwCl [(h0, .inr (16, [v0, v1, v2, v3, v4, v5, v6, v7, v8, v9, v10, v11, v12, v13, v14, v15]))] U.heap ∧ va_K (dC, dI) vwCl [] U ∧ va_D (fun _ => True) [(h0, .inr (16, [v0, v1, v2, v3, v4, v5, v6, v7, v8, v9, v10, v11, v12, v13, v14, v15]))] ∧ ns_F g (va_A [(h0, .inr (16, [v0, v1, v2, v3, v4, v5, v6, v7, v8, v9, v10, v11, v12, v13, v14, v15]))] sz) U U.heap)) (va_Qi (fun (r : Int32) (_ : Unit) => r = 1) (fun _ t => va_P (dC, dI) vwCl [(h0, .inr (16, [v0, v1, v2, v3, v4, v5, v6, v7, v8, v9, v10, v11, v12, v13, v14, v15]))] t.heap ∧ va_K (dC, dI) vwCl [] t ∧ va_D (va_A [(h0, .inr (16, [v0, v1, v2, v3, v4, v5, v6, v7, v8, v9, v10, v11, v12, v13, v14, v15]))] sz) [(h0, .inr (16, [v0, v1, v2, v3, v4, v5, v6, v7, v8, v9, v10, v11, v12, v13, v14, v15]))]) (va_A [(h0, .inr (16, [v0, v1, v2, v3, v4, v5, v6, v7, v8, v9, v10, v11, v12, v13, v14, v15]))] sz)) 1 6 (va_A [(h0, .inr (16, [v0, v1, v2, v3, v4, v5, v6, v7, v8, v9, v10, v11, v12, v13, v14, v15]))] sz) := by
  refine va_MetW (cc := cL_word) (maxL := 5) (ret := (some .int)) (hh := [(0, 11, 14, 19), (0, 11, 18, 21)]) (by decide) rfl ?_
  intro p e s m args below meth c s₁ B hml hv
  obtain ⟨rfl, hsz, hP, hK, hD0, hF⟩ := hv
  have hx := B.exec
  have hb := B.bytes
  have hr := B.returns
  have hts := atoms_spec (ws := wsL_word) B.pre
  have hown : s.vm.findClass RL = some m.cls := findClass_of_methodNamed B.named
  have hlocks := B.notSynchronized
  have htab : c.exceptionTable.toList = [⟨0, 11, 14, 19⟩, ⟨0, 11, 18, 21⟩] := vx_table B (hts _ List.mem_cons_self)
  subst hsz
  have hD := hD0.self (sz := s.heap.size)
  generalize hAe : va_A [(h0, .inr (16, [v0, v1, v2, v3, v4, v5, v6, v7, v8, v9, v10, v11, v12, v13, v14, v15]))] s.heap.size = A at hD hF ⊢
  have hA : ∀ q : Nat, s.heap.size ≤ q → A q := fun q h => by rw [← hAe]; exact Or.inr h
  have hS : va_S A s.heap s.heap [] := va_S.rf
  have hP : va_P (dC, dI) vwCl [(h0, .inr (16, [v0, v1, v2, v3, v4, v5, v6, v7, v8, v9, v10, v11, v12, v13, v14, v15]))] s.heap := hP
  have hl := lv_entry ([.ref h0, .int x0, .int x1, .ref h1]) (n := 5) (Nat.le_of_ble_eq_true rfl)
  rw [lg_entry_eq]
  generalize (lg_sl ([.ref h0, .int x0, .int x1, .ref h1]) ++ List.replicate (5 - (lg_sl ([.ref h0, .int x0, .int x1, .ref h1])).length) Slot.unset).toArray = ls at hl ⊢
  have hl : lv_has ls 5 [(0, .ref h0), (1, .int x0), (2, .int x1), (3, .ref h1)] := hl
  refine lv_aload_n hx hb dL_word_0 rfl (lv_at hl 3 rfl) ?_
  refine lv_aload_n hx hb dL_word_1 rfl (lv_at hl 0 rfl) ?_
  refine lv_iload_n hx hb dL_word_2 rfl (lv_at hl 1 rfl) ?_
  refine lv_iload_n hx hb dL_word_3 rfl (lv_at hl 2 rfl) ?_
  have hPc := hP.sub (ws' := []) [] rfl
  have hDc := hD.sub (ws' := []) [] (by decide) rfl
  have hKc := hK.sub (tys' := []) [] rfl
  have hFc := va_free (wc := []) hD hS hA [] rfl
  refine vx_callv (vx_runV (As := [.int x0, .int x1]) (rest := [.ref h1]) ⟨hx, hb, hml, hown, hts⟩ (kX9_word_12 l dC dI g s.heap.size h0 x0 x1 ⟨by omega, by omega⟩ ⟨by omega, by omega⟩ hlt) (cwV 2 hts gL_word_X9_word rfl rfl rfl (by decide +kernel) ⟨Nat.le_of_ble_eq_true rfl, Nat.le_of_ble_eq_true rfl⟩) ⟨fun a U gg mk q => by obtain ⟨q0, q1, qP, qK, qD, qF⟩ := q; exact ⟨q0, q1, qP, va_K.moved (u := U) (U := U.calling gg mk a) (Vm.Alike.refl U.vm) qK, qD, ns_same qF⟩, va_recv hK hP (ci := 16) (q0 := 0) rfl rfl, fun U hU hW => ⟨rfl, by rw [hU], by rw [hU]; exact hPc, va_K.moved hW.alike hKc, hDc.weaken (fun _ _ _ _ => trivial), ns_call hF hS hFc hU hW⟩⟩ rfl rfl hl.1 rfl (lv_room (Nat.le_of_ble_eq_true rfl)) dL_word_4 ⟨Nat.le_of_ble_eq_true rfl, Nat.le_of_ble_eq_true rfl⟩) hS (fun q _ h => hFc q h) hFc (fun q _ h => hFc q h) (fun E ce q9 u t H1 locs ht hvm hw hB hz1 hk1 hS hc1 hc2 hc3 => ?_) (fun _ _ _ _ _ _ hw _ _ _ _ => False.elim hw)
  obtain rfl : E = "java/lang/IllegalArgumentException" := hB
  obtain ⟨hP, hD⟩ := va_join (wr := [(h0, .inr (16, [v0, v1, v2, v3, v4, v5, v6, v7, v8, v9, v10, v11, v12, v13, v14, v15]))]) (w1 := []) hP hD [] [0] rfl rfl (by decide) (by decide) hk1 hFc (fun k q h => by simp at h) ⟨fun i j p q h => by simp at h, fun k q h => by simp at h⟩
  have hK := hK.sub (tys' := []) [] rfl
  generalize H1 = H at hP hS hc1 ⊢
  have hP : va_P (dC, dI) vwCl [(h0, .inr (16, [v0, v1, v2, v3, v4, v5, v6, v7, v8, v9, v10, v11, v12, v13, v14, v15]))] H := hP
  have hD : va_D A [(h0, .inr (16, [v0, v1, v2, v3, v4, v5, v6, v7, v8, v9, v10, v11, v12, v13, v14, v15]))] := hD
  have hK : va_K (dC, dI) vwCl [] s := hK
  refine vx_widen (k := 1) (n := 6) (Nat.le_of_ble_eq_true rfl) (Nat.le_of_ble_eq_true rfl) ?_
  refine vx_catch hown [] ⟨0, 11, 14, 19⟩ [⟨0, 11, 18, 21⟩] htab (fun z hz => by simp at hz) (by decide) (by decide) (hts (.classLink RL 19 "java/lang/IllegalArgumentException") (by decide +kernel)) (va_Nw.use rfl (ns_f11 hF)) hc1 hc2 hc3 ?_
  refine W.eq (g2 := F0 m 14 ls [.ref q9]) rfl ?_
  refine lv_astore (lv' := [(4, .ref q9), (0, .ref h0), (1, .int x0), (2, .int x1), (3, .ref h1)]) hx hb dL_word_14 hl (by decide) rfl (fun ls hl => ?_)
  refine lv_iconst (v := 1) hx hb dL_word_16 (by decide) ?_
  have hP9 := hP.sub (ws' := [(h0, .inr (16, [v0, v1, v2, v3, v4, v5, v6, v7, v8, v9, v10, v11, v12, v13, v14, v15]))]) [0] rfl
  have hD9 := hD.sub (ws' := [(h0, .inr (16, [v0, v1, v2, v3, v4, v5, v6, v7, v8, v9, v10, v11, v12, v13, v14, v15]))]) [0] (by decide) rfl
  have hK9 := hK.sub (tys' := []) [] rfl
  refine W.widen (k := 1) (n := 6) (Nat.le_of_ble_eq_true rfl) (Nat.le_of_ble_eq_true rfl) ?_
  exact W.iret (v := 1) hx hb hr (fun t ht hW => ⟨⟨_, (), rfl, rfl, by rw [ht]; exact hP9, va_K.moved hW.alike hK9, hD9⟩, hS.F ht⟩) hS.2.2 dL_word_17
set_option maxHeartbeats 4000000 in
set_option maxRecDepth 100000 in
theorem kX16_isIn_2 (l : Launch) (dC : Nat → ClassId) (dI : Nat → Nat → Nat) (g : Nat → Nat) (sz : Nat) (x0 : Int32) (ex0 : (0 : Int) ≤ x0.toInt ∧ x0.toInt ≤ (25 : Int)) : Met l yX16_isIn wsX16_isIn ({ frames := 0, cells := 0, slots := 0, locals := 0 }) (va_Pc [.int x0, .int 0, .int 25] (fun U => U.heap.size = sz ∧ va_P (dC, dI) vwCl [] U.heap ∧ va_K (dC, dI) vwCl [] U ∧ va_D (fun _ => True) [] ∧ ns_F g (va_A [] sz) U U.heap)) (va_Qi (fun (r : Int32) (_ : Unit) => r = 1) (fun _ t => va_P (dC, dI) vwCl [] t.heap ∧ va_K (dC, dI) vwCl [] t ∧ va_D (va_A [] sz) []) (va_A [] sz)) 0 0 (va_A [] sz) := by
  refine Met.ofW (cc := cX16_isIn) (maxL := 3) (ret := (some .boolean)) (by decide) rfl ?_
  intro p e s m args below meth c s₁ B hml hv
  obtain ⟨rfl, hsz, hP, hK, hD0, hF⟩ := hv
  have hx := B.exec
  have hb := B.bytes
  have hr := B.returns
  have hts := atoms_spec (ws := wsX16_isIn) B.pre
  have hown : s.vm.findClass RX16 = some m.cls := findClass_of_methodNamed B.named
  have hlocks := B.notSynchronized
  subst hsz
  have hD := hD0.self (sz := s.heap.size)
  generalize hAe : va_A [] s.heap.size = A at hD hF ⊢
  have hA : ∀ q : Nat, s.heap.size ≤ q → A q := fun q h => by rw [← hAe]; exact Or.inr h
  have hS : va_S A s.heap s.heap [] := va_S.rf
  have hP : va_P (dC, dI) vwCl [] s.heap := hP
  have hl := lv_entry ([.int x0, .int 0, .int 25]) (n := 3) (Nat.le_of_ble_eq_true rfl)
  rw [lg_entry_eq]
  generalize (lg_sl ([.int x0, .int 0, .int 25]) ++ List.replicate (3 - (lg_sl ([.int x0, .int 0, .int 25])).length) Slot.unset).toArray = ls at hl ⊢
  have hl : lv_has ls 3 [(0, .int x0), (1, .int 0), (2, .int 25)] := hl
  refine lv_iload_n hx hb dX16_isIn_0 rfl (lv_at hl 0 rfl) ?_
  refine lv_iload_n hx hb dX16_isIn_1 rfl (lv_at hl 1 rfl) ?_
  refine lv_icmp_lt (tgt := 14) hx hb dX16_isIn_2 (by decide) (fun c1 => absurd c1 (fun z => absurd (Int32.lt_iff_toInt_lt.mp z : x0.toInt < (0 : Int)) (by omega))) (fun c1 => ?_)
  refine lv_iload_n hx hb dX16_isIn_5 rfl (lv_at hl 0 rfl) ?_
  refine lv_iload_n hx hb dX16_isIn_6 rfl (lv_at hl 2 rfl) ?_
  refine lv_icmp_gt (tgt := 14) hx hb dX16_isIn_7 (by decide) (fun c2 => absurd c2 (fun z => absurd (Int32.lt_iff_toInt_lt.mp z : (25 : Int) < x0.toInt) (by omega))) (fun c2 => ?_)
  refine lv_iconst (v := 1) hx hb dX16_isIn_10 (by decide) ?_
  refine lv_goto (tgt := 15) hx hb dX16_isIn_11 (by decide) ?_
  have hP9 := hP.sub (ws' := []) [] rfl
  have hD9 := hD.sub (ws' := []) [] (by decide) rfl
  have hK9 := hK.sub (tys' := []) [] rfl
  refine W.widen (k := 0) (n := 0) (Nat.le_of_ble_eq_true rfl) (Nat.le_of_ble_eq_true rfl) ?_
  exact W.zret (v := 1) hx hb hr (by decide) (fun t ht hW => ⟨⟨_, (), rfl, rfl, by rw [ht]; exact hP9, va_K.moved hW.alike hK9, hD9⟩, hS.F ht⟩) hS.2.2 dX16_isIn_15
set_option maxHeartbeats 4000000 in
set_option maxRecDepth 100000 in
theorem kX16_isIn_3 (l : Launch) (dC : Nat → ClassId) (dI : Nat → Nat → Nat) (g : Nat → Nat) (sz : Nat) (x0 : Int32) (ex0 : (-2147483648 : Int) ≤ x0.toInt ∧ x0.toInt ≤ (0 : Int)) : Met l yX16_isIn wsX16_isIn ({ frames := 0, cells := 0, slots := 0, locals := 0 }) (va_Pc [.int x0, .int 1, .int 9] (fun U => U.heap.size = sz ∧ va_P (dC, dI) vwCl [] U.heap ∧ va_K (dC, dI) vwCl [] U ∧ va_D (fun _ => True) [] ∧ ns_F g (va_A [] sz) U U.heap)) (va_Qi (fun (r : Int32) (_ : Unit) => r = 0) (fun _ t => va_P (dC, dI) vwCl [] t.heap ∧ va_K (dC, dI) vwCl [] t ∧ va_D (va_A [] sz) []) (va_A [] sz)) 0 0 (va_A [] sz) := by
  refine Met.ofW (cc := cX16_isIn) (maxL := 3) (ret := (some .boolean)) (by decide) rfl ?_
  intro p e s m args below meth c s₁ B hml hv
  obtain ⟨rfl, hsz, hP, hK, hD0, hF⟩ := hv
  have hx := B.exec
  have hb := B.bytes
  have hr := B.returns
  have hts := atoms_spec (ws := wsX16_isIn) B.pre
  have hown : s.vm.findClass RX16 = some m.cls := findClass_of_methodNamed B.named
  have hlocks := B.notSynchronized
  subst hsz
  have hD := hD0.self (sz := s.heap.size)
  generalize hAe : va_A [] s.heap.size = A at hD hF ⊢
  have hA : ∀ q : Nat, s.heap.size ≤ q → A q := fun q h => by rw [← hAe]; exact Or.inr h
  have hS : va_S A s.heap s.heap [] := va_S.rf
  have hP : va_P (dC, dI) vwCl [] s.heap := hP
  have hl := lv_entry ([.int x0, .int 1, .int 9]) (n := 3) (Nat.le_of_ble_eq_true rfl)
  rw [lg_entry_eq]
  generalize (lg_sl ([.int x0, .int 1, .int 9]) ++ List.replicate (3 - (lg_sl ([.int x0, .int 1, .int 9])).length) Slot.unset).toArray = ls at hl ⊢
  have hl : lv_has ls 3 [(0, .int x0), (1, .int 1), (2, .int 9)] := hl
  refine lv_iload_n hx hb dX16_isIn_0 rfl (lv_at hl 0 rfl) ?_
  refine lv_iload_n hx hb dX16_isIn_1 rfl (lv_at hl 1 rfl) ?_
  refine lv_icmp_lt (tgt := 14) hx hb dX16_isIn_2 (by decide) (fun c1 => ?_) (fun c1 => absurd (Int32.lt_iff_toInt_lt.mpr (show x0.toInt < (1 : Int) by omega)) c1)
  refine lv_iconst (v := 0) hx hb dX16_isIn_14 (by decide) ?_
  have hP9 := hP.sub (ws' := []) [] rfl
  have hD9 := hD.sub (ws' := []) [] (by decide) rfl
  have hK9 := hK.sub (tys' := []) [] rfl
  refine W.widen (k := 0) (n := 0) (Nat.le_of_ble_eq_true rfl) (Nat.le_of_ble_eq_true rfl) ?_
  exact W.zret (v := 0) hx hb hr (by decide) (fun t ht hW => ⟨⟨_, (), rfl, rfl, by rw [ht]; exact hP9, va_K.moved hW.alike hK9, hD9⟩, hS.F ht⟩) hS.2.2 dX16_isIn_15
set_option maxHeartbeats 4000000 in
set_option maxRecDepth 100000 in
theorem kX16_word_12 (l : Launch) (dC : Nat → ClassId) (dI : Nat → Nat → Nat) (g : Nat → Nat) (sz : Nat) (h0 : Nat) (x0 : Int32) (x1 : Int32) (v0 : Value) (v1 : Value) (v2 : Value) (v3 : Value) (v4 : Value) (v5 : Value) (v6 : Value) (v7 : Value) (v8 : Value) (ex0 : (0 : Int) ≤ x0.toInt ∧ x0.toInt ≤ (25 : Int)) (ex1 : (-2147483648 : Int) ≤ x1.toInt ∧ x1.toInt ≤ (0 : Int)) : Met l yX16_word wsX16_word ({ frames := 2, cells := 0, slots := 0, locals := 44 }) (va_Pc [.ref h0, .int x0, .int x1] (fun U => U.heap.size = sz ∧ va_P (dC, dI) vwCl [(h0, .inr (23, [v0, v1, v2, v3, v4, v5, v6, v7, v8]))] U.heap ∧ va_K (dC, dI) vwCl [] U ∧ va_D (fun _ => True) [(h0, .inr (23, [v0, v1, v2, v3, v4, v5, v6, v7, v8]))] ∧ ns_F g (va_A [(h0, .inr (23, [v0, v1, v2, v3, v4, v5, v6, v7, v8]))] sz) U U.heap)) (va_Qi (fun (r : Int32) (_ : Unit) => r = 0) (fun _ t => va_P (dC, dI) vwCl [(h0, .inr (23, [.int 1, v1, v2, v3, v4, v5, v6, v7, v8]))] t.heap ∧ va_K (dC, dI) vwCl [] t ∧ va_D (va_A [(h0, .inr (23, [v0, v1, v2, v3, v4, v5, v6, v7, v8]))] sz) [(h0, .inr (23, [.int 1, v1, v2, v3, v4, v5, v6, v7, v8]))]) (va_A [(h0, .inr (23, [v0, v1, v2, v3, v4, v5, v6, v7, v8]))] sz)) 0 0 (va_A [(h0, .inr (23, [v0, v1, v2, v3, v4, v5, v6, v7, v8]))] sz) := by
  refine Met.ofW (cc := cX16_word) (maxL := 5) (ret := (some .int)) (by decide) rfl ?_
  intro p e s m args below meth c s₁ B hml hv
  obtain ⟨rfl, hsz, hP, hK, hD0, hF⟩ := hv
  have hx := B.exec
  have hb := B.bytes
  have hr := B.returns
  have hts := atoms_spec (ws := wsX16_word) B.pre
  have hown : s.vm.findClass RX16 = some m.cls := findClass_of_methodNamed B.named
  have hlocks := B.notSynchronized
  subst hsz
  have hD := hD0.self (sz := s.heap.size)
  generalize hAe : va_A [(h0, .inr (23, [v0, v1, v2, v3, v4, v5, v6, v7, v8]))] s.heap.size = A at hD hF ⊢
  have hA : ∀ q : Nat, s.heap.size ≤ q → A q := fun q h => by rw [← hAe]; exact Or.inr h
  have hS : va_S A s.heap s.heap [] := va_S.rf
  have hP : va_P (dC, dI) vwCl [(h0, .inr (23, [v0, v1, v2, v3, v4, v5, v6, v7, v8]))] s.heap := hP
  have hl := lv_entry ([.ref h0, .int x0, .int x1]) (n := 5) (Nat.le_of_ble_eq_true rfl)
  rw [lg_entry_eq]
  generalize (lg_sl ([.ref h0, .int x0, .int x1]) ++ List.replicate (5 - (lg_sl ([.ref h0, .int x0, .int x1])).length) Slot.unset).toArray = ls at hl ⊢
  have hl : lv_has ls 5 [(0, .ref h0), (1, .int x0), (2, .int x1)] := hl
  refine lv_aload_n hx hb dX16_word_0 rfl (lv_at hl 0 rfl) ?_
  refine lv_iload_n hx hb dX16_word_1 rfl (lv_at hl 1 rfl) ?_
  refine lv_iconst (v := 0) hx hb dX16_word_2 (by decide) ?_
  refine lv_bipush (v := 25) hx hb dX16_word_3 (by decide) ?_
  have hPc := hP.sub (ws' := []) [] rfl
  have hDc := hD.sub (ws' := []) [] (by decide) rfl
  have hKc := hK.sub (tys' := []) [] rfl
  have hFc := va_free (wc := []) hD hS hA [] rfl
  refine va_calli (va_runS (As := [.int x0, .int 0, .int 25]) (rest := [.ref h0]) ⟨hx, hb, hml, hown, hts⟩ (kX16_isIn_2 l dC dI g s.heap.size x0 ⟨by omega, by omega⟩) (va_cwS 3 hts gX16_word_X16_isIn rfl rfl rfl (by decide +kernel) ⟨Nat.le_of_ble_eq_true rfl, Nat.le_of_ble_eq_true rfl⟩) ⟨fun a U gg mk q => by obtain ⟨q0, q1, qP, qK, qD, qF⟩ := q; exact ⟨q0, q1, qP, va_K.moved (u := U) (U := U.calling gg mk a) (Vm.Alike.refl U.vm) qK, qD, ns_same qF⟩, fun U hU hW => ⟨rfl, by rw [hU], by rw [hU]; exact hPc, va_K.moved hW.alike hKc, hDc.weaken (fun _ _ _ _ => trivial), ns_call hF hS hFc hU hW⟩⟩ rfl rfl hl.1 rfl (lv_room (Nat.le_of_ble_eq_true rfl)) dX16_word_5 ⟨Nat.le_of_ble_eq_true rfl, Nat.le_of_ble_eq_true rfl⟩) hS (fun q _ h => hFc q h) hFc (fun r9 u t H1 locs ht hvm hw hB hz1 hk1 hS => ?_)
  obtain rfl := hw
  obtain ⟨hP1, hK1, hD1⟩ := hB
  rw [ht] at hP1
  have hK1 := va_K.moved hvm.symm hK1
  obtain ⟨hP, hD⟩ := va_join (wr := [(h0, .inr (23, [v0, v1, v2, v3, v4, v5, v6, v7, v8]))]) (w1 := []) hP hD [] [0] rfl rfl (by decide) (by decide) hk1 hFc hP1 hD1
  have hK := (hK.sub (tys' := []) [] rfl).app hK1
  generalize H1 = H at hP hS ⊢
  have hP : va_P (dC, dI) vwCl [(h0, .inr (23, [v0, v1, v2, v3, v4, v5, v6, v7, v8]))] H := hP
  have hD : va_D A [(h0, .inr (23, [v0, v1, v2, v3, v4, v5, v6, v7, v8]))] := hD
  have hK : va_K (dC, dI) vwCl [] s := hK
  refine W.widen (k := 0) (n := 0) (Nat.le_of_ble_eq_true rfl) (Nat.le_of_ble_eq_true rfl) ?_
  refine lv_if_eq (tgt := 21) hx hb dX16_word_8 (by decide) (fun c1 => absurd c1 (by decide)) (fun c1 => ?_)
  refine lv_iload_n hx hb dX16_word_11 rfl (lv_at hl 2 rfl) ?_
  refine lv_iconst (v := 1) hx hb dX16_word_12 (by decide) ?_
  refine lv_bipush (v := 9) hx hb dX16_word_13 (by decide) ?_
  have hPc := hP.sub (ws' := []) [] rfl
  have hDc := hD.sub (ws' := []) [] (by decide) rfl
  have hKc := hK.sub (tys' := []) [] rfl
  have hFc := va_free (wc := []) hD hS hA [] rfl
  refine va_calli (va_runS (As := [.int x1, .int 1, .int 9]) (rest := [.ref h0]) ⟨hx, hb, hml, hown, hts⟩ (kX16_isIn_3 l dC dI g H.size x1 ⟨by omega, by omega⟩) (va_cwS 3 hts gX16_word_X16_isIn rfl rfl rfl (by decide +kernel) ⟨Nat.le_of_ble_eq_true rfl, Nat.le_of_ble_eq_true rfl⟩) ⟨fun a U gg mk q => by obtain ⟨q0, q1, qP, qK, qD, qF⟩ := q; exact ⟨q0, q1, qP, va_K.moved (u := U) (U := U.calling gg mk a) (Vm.Alike.refl U.vm) qK, qD, ns_same qF⟩, fun U hU hW => ⟨rfl, by rw [hU], by rw [hU]; exact hPc, va_K.moved hW.alike hKc, hDc.weaken (fun _ _ _ _ => trivial), ns_call hF hS hFc hU hW⟩⟩ rfl rfl hl.1 rfl (lv_room (Nat.le_of_ble_eq_true rfl)) dX16_word_15 ⟨Nat.le_of_ble_eq_true rfl, Nat.le_of_ble_eq_true rfl⟩) hS (fun q _ h => hFc q h) hFc (fun r9 u t H1 locs ht hvm hw hB hz1 hk1 hS => ?_)
  obtain rfl := hw
  obtain ⟨hP1, hK1, hD1⟩ := hB
  rw [ht] at hP1
  have hK1 := va_K.moved hvm.symm hK1
  obtain ⟨hP, hD⟩ := va_join (wr := [(h0, .inr (23, [v0, v1, v2, v3, v4, v5, v6, v7, v8]))]) (w1 := []) hP hD [] [0] rfl rfl (by decide) (by decide) hk1 hFc hP1 hD1
  have hK := (hK.sub (tys' := []) [] rfl).app hK1
  generalize H1 = H at hP hS ⊢
  have hP : va_P (dC, dI) vwCl [(h0, .inr (23, [v0, v1, v2, v3, v4, v5, v6, v7, v8]))] H := hP
  have hD : va_D A [(h0, .inr (23, [v0, v1, v2, v3, v4, v5, v6, v7, v8]))] := hD
  have hK : va_K (dC, dI) vwCl [] s := hK
  refine W.widen (k := 0) (n := 0) (Nat.le_of_ble_eq_true rfl) (Nat.le_of_ble_eq_true rfl) ?_
  refine lv_if_ne (tgt := 25) hx hb dX16_word_18 (by decide) (fun c2 => absurd (by decide) c2) (fun c2 => ?_)
  refine lv_iconst (v := 1) hx hb dX16_word_21 (by decide) ?_
  refine lv_goto (tgt := 26) hx hb dX16_word_22 (by decide) ?_
  refine lv_iconst (v := 1) hx hb dX16_word_26 (by decide) ?_
  have hPc := hP.sub (ws' := [(h0, .inr (23, [v0, v1, v2, v3, v4, v5, v6, v7, v8]))]) [0] rfl
  have hDc := hD.sub (ws' := [(h0, .inr (23, [v0, v1, v2, v3, v4, v5, v6, v7, v8]))]) [0] (by decide) rfl
  have hKc := hK.sub (tys' := []) [] rfl
  have hFc := va_free (wc := [(h0, .inr (23, [v0, v1, v2, v3, v4, v5, v6, v7, v8]))]) hD hS hA [0] rfl
  refine va_calli (va_runV (As := [.int 1, .int 1]) (rest := []) ⟨hx, hb, hml, hown, hts⟩ (kX16_start l dC dI g H.size h0 v0 v1 v2 v3 v4 v5 v6 v7 v8 ) (cwV 2 hts gX16_word_X16_start rfl rfl rfl (by decide +kernel) ⟨Nat.le_of_ble_eq_true rfl, Nat.le_of_ble_eq_true rfl⟩) ⟨fun a U gg mk q => by obtain ⟨q0, q1, qP, qK, qD, qF⟩ := q; exact ⟨q0, q1, qP, va_K.moved (u := U) (U := U.calling gg mk a) (Vm.Alike.refl U.vm) qK, qD, ns_same qF⟩, va_recv hK hP (ci := 23) (q0 := 0) rfl rfl, fun U hU hW => ⟨rfl, by rw [hU], by rw [hU]; exact hPc, va_K.moved hW.alike hKc, hDc.weaken (fun _ _ _ _ => trivial), ns_call hF hS hFc hU hW⟩⟩ rfl rfl hl.1 rfl (lv_room (Nat.le_of_ble_eq_true rfl)) dX16_word_27 ⟨Nat.le_of_ble_eq_true rfl, Nat.le_of_ble_eq_true rfl⟩) hS (fun q _ h => hFc q h) hFc (fun r9 u t H1 locs ht hvm hw hB hz1 hk1 hS => ?_)
  obtain rfl := hw
  obtain ⟨hP1, hK1, hD1⟩ := hB
  rw [ht] at hP1
  have hK1 := va_K.moved hvm.symm hK1
  obtain ⟨hP, hD⟩ := va_join (wr := []) (w1 := [(h0, .inr (23, [.int 1, v1, v2, v3, v4, v5, v6, v7, v8]))]) hP hD [0] [] rfl rfl (by decide) (by decide) hk1 hFc hP1 hD1
  have hK := (hK.sub (tys' := []) [] rfl).app hK1
  generalize H1 = H at hP hS ⊢
  have hP : va_P (dC, dI) vwCl [(h0, .inr (23, [.int 1, v1, v2, v3, v4, v5, v6, v7, v8]))] H := hP
  have hD : va_D A [(h0, .inr (23, [.int 1, v1, v2, v3, v4, v5, v6, v7, v8]))] := hD
  have hK : va_K (dC, dI) vwCl [] s := hK
  refine W.widen (k := 0) (n := 0) (Nat.le_of_ble_eq_true rfl) (Nat.le_of_ble_eq_true rfl) ?_
  refine lv_if_ne (tgt := 45) hx hb dX16_word_30 (by decide) (fun c3 => ?_) (fun c3 => absurd c3 (by decide))
  refine lv_iconst (v := 0) hx hb dX16_word_45 (by decide) ?_
  have hP9 := hP.sub (ws' := [(h0, .inr (23, [.int 1, v1, v2, v3, v4, v5, v6, v7, v8]))]) [0] rfl
  have hD9 := hD.sub (ws' := [(h0, .inr (23, [.int 1, v1, v2, v3, v4, v5, v6, v7, v8]))]) [0] (by decide) rfl
  have hK9 := hK.sub (tys' := []) [] rfl
  refine W.widen (k := 0) (n := 0) (Nat.le_of_ble_eq_true rfl) (Nat.le_of_ble_eq_true rfl) ?_
  exact W.iret (v := 0) hx hb hr (fun t ht hW => ⟨⟨_, (), rfl, rfl, by rw [ht]; exact hP9, va_K.moved hW.alike hK9, hD9⟩, hS.F ht⟩) hS.2.2 dX16_word_46
set_option maxHeartbeats 4000000 in
set_option maxRecDepth 100000 in
theorem kX4_size (l : Launch) (dC : Nat → ClassId) (dI : Nat → Nat → Nat) (g : Nat → Nat) (sz : Nat) (h0 : Nat) (v0 : Value) : Met l yX4_size wsX4_size ({ frames := 0, cells := 0, slots := 0, locals := 0 }) (va_Pc [.ref h0] (fun U => U.heap.size = sz ∧ va_P (dC, dI) vwCl [(h0, .inr (11, [v0, .int 0]))] U.heap ∧ va_K (dC, dI) vwCl [] U ∧ va_D (fun _ => True) [(h0, .inr (11, [v0, .int 0]))] ∧ ns_F g (va_A [(h0, .inr (11, [v0, .int 0]))] sz) U U.heap)) (va_Qi (fun (r : Int32) (_ : Unit) => r = 0) (fun _ t => va_P (dC, dI) vwCl [(h0, .inr (11, [v0, .int 0]))] t.heap ∧ va_K (dC, dI) vwCl [] t ∧ va_D (va_A [(h0, .inr (11, [v0, .int 0]))] sz) [(h0, .inr (11, [v0, .int 0]))]) (va_A [(h0, .inr (11, [v0, .int 0]))] sz)) 0 0 (va_A [(h0, .inr (11, [v0, .int 0]))] sz) := by
  refine Met.ofW (cc := cX4_size) (maxL := 1) (ret := (some .int)) (by decide) rfl ?_
  intro p e s m args below meth c s₁ B hml hv
  obtain ⟨rfl, hsz, hP, hK, hD0, hF⟩ := hv
  have hx := B.exec
  have hb := B.bytes
  have hr := B.returns
  have hts := atoms_spec (ws := wsX4_size) B.pre
  have hown : s.vm.findClass RX4 = some m.cls := findClass_of_methodNamed B.named
  have hlocks := B.notSynchronized
  subst hsz
  have hD := hD0.self (sz := s.heap.size)
  generalize hAe : va_A [(h0, .inr (11, [v0, .int 0]))] s.heap.size = A at hD hF ⊢
  have hA : ∀ q : Nat, s.heap.size ≤ q → A q := fun q h => by rw [← hAe]; exact Or.inr h
  have hS : va_S A s.heap s.heap [] := va_S.rf
  have hP : va_P (dC, dI) vwCl [(h0, .inr (11, [v0, .int 0]))] s.heap := hP
  have hl := lv_entry ([.ref h0]) (n := 1) (Nat.le_of_ble_eq_true rfl)
  rw [lg_entry_eq]
  generalize (lg_sl ([.ref h0]) ++ List.replicate (1 - (lg_sl ([.ref h0])).length) Slot.unset).toArray = ls at hl ⊢
  have hl : lv_has ls 1 [(0, .ref h0)] := hl
  refine lv_aload_n hx hb dX4_size_0 rfl (lv_at hl 0 rfl) ?_
  refine va_get (D := (dC, dI)) (ci := 11) (v := .int 0) (C := RX4) (T := TX4) (N := 2) hx hb hts (by decide +kernel) hown hK hP 0 rfl rfl 1 (by decide) (hts (.fieldLink RX4 7 "Nestprint$Row" "size" "I") (by decide +kernel)) (fun _ h9 => h9) rfl dX4_size_1 ?_
  have hP9 := hP.sub (ws' := [(h0, .inr (11, [v0, .int 0]))]) [0] rfl
  have hD9 := hD.sub (ws' := [(h0, .inr (11, [v0, .int 0]))]) [0] (by decide) rfl
  have hK9 := hK.sub (tys' := []) [] rfl
  refine W.widen (k := 0) (n := 0) (Nat.le_of_ble_eq_true rfl) (Nat.le_of_ble_eq_true rfl) ?_
  exact W.iret (v := 0) hx hb hr (fun t ht hW => ⟨⟨_, (), rfl, rfl, by rw [ht]; exact hP9, va_K.moved hW.alike hK9, hD9⟩, hS.F ht⟩) hS.2.2 dX4_size_4
set_option maxHeartbeats 4000000 in
set_option maxRecDepth 100000 in
theorem kX3_count (l : Launch) (dC : Nat → ClassId) (dI : Nat → Nat → Nat) (g : Nat → Nat) (sz : Nat) (h0 : Nat) (h1 : Nat) (v0 : Value) (v1 : Value) (v2 : Value) (v3 : Value) (v4 : Value) (v5 : Value) (v6 : Value) (v7 : Value) (v8 : Value) : Met l yX3_count wsX3_count ({ frames := 1, cells := 0, slots := 0, locals := 20 }) (va_Pc [.ref h0] (fun U => U.heap.size = sz ∧ va_P (dC, dI) vwCl [(h0, .inr (10, [.ref h1, v0, v1, v2, v3, v4, v5, v6, v7])), (h1, .inr (11, [v8, .int 0]))] U.heap ∧ va_K (dC, dI) vwCl [] U ∧ va_D (fun _ => True) [(h0, .inr (10, [.ref h1, v0, v1, v2, v3, v4, v5, v6, v7])), (h1, .inr (11, [v8, .int 0]))] ∧ ns_F g (va_A [(h0, .inr (10, [.ref h1, v0, v1, v2, v3, v4, v5, v6, v7])), (h1, .inr (11, [v8, .int 0]))] sz) U U.heap)) (va_Qi (fun (r : Int32) (_ : Unit) => r = 0) (fun _ t => va_P (dC, dI) vwCl [(h0, .inr (10, [.ref h1, v0, v1, v2, v3, v4, v5, v6, v7])), (h1, .inr (11, [v8, .int 0]))] t.heap ∧ va_K (dC, dI) vwCl [] t ∧ va_D (va_A [(h0, .inr (10, [.ref h1, v0, v1, v2, v3, v4, v5, v6, v7])), (h1, .inr (11, [v8, .int 0]))] sz) [(h0, .inr (10, [.ref h1, v0, v1, v2, v3, v4, v5, v6, v7])), (h1, .inr (11, [v8, .int 0]))]) (va_A [(h0, .inr (10, [.ref h1, v0, v1, v2, v3, v4, v5, v6, v7])), (h1, .inr (11, [v8, .int 0]))] sz)) 0 0 (va_A [(h0, .inr (10, [.ref h1, v0, v1, v2, v3, v4, v5, v6, v7])), (h1, .inr (11, [v8, .int 0]))] sz) := by
  refine Met.ofW (cc := cX3_count) (maxL := 1) (ret := (some .int)) (by decide) rfl ?_
  intro p e s m args below meth c s₁ B hml hv
  obtain ⟨rfl, hsz, hP, hK, hD0, hF⟩ := hv
  have hx := B.exec
  have hb := B.bytes
  have hr := B.returns
  have hts := atoms_spec (ws := wsX3_count) B.pre
  have hown : s.vm.findClass RX3 = some m.cls := findClass_of_methodNamed B.named
  have hlocks := B.notSynchronized
  subst hsz
  have hD := hD0.self (sz := s.heap.size)
  generalize hAe : va_A [(h0, .inr (10, [.ref h1, v0, v1, v2, v3, v4, v5, v6, v7])), (h1, .inr (11, [v8, .int 0]))] s.heap.size = A at hD hF ⊢
  have hA : ∀ q : Nat, s.heap.size ≤ q → A q := fun q h => by rw [← hAe]; exact Or.inr h
  have hS : va_S A s.heap s.heap [] := va_S.rf
  have hP : va_P (dC, dI) vwCl [(h0, .inr (10, [.ref h1, v0, v1, v2, v3, v4, v5, v6, v7])), (h1, .inr (11, [v8, .int 0]))] s.heap := hP
  have hl := lv_entry ([.ref h0]) (n := 1) (Nat.le_of_ble_eq_true rfl)
  rw [lg_entry_eq]
  generalize (lg_sl ([.ref h0]) ++ List.replicate (1 - (lg_sl ([.ref h0])).length) Slot.unset).toArray = ls at hl ⊢
  have hl : lv_has ls 1 [(0, .ref h0)] := hl
  refine lv_aload_n hx hb dX3_count_0 rfl (lv_at hl 0 rfl) ?_
  refine va_get (D := (dC, dI)) (ci := 10) (v := .ref h1) (C := RX3) (T := TX3) (N := 9) hx hb hts (by decide +kernel) hown hK hP 0 rfl rfl 0 (by decide) (hts (.fieldLink RX3 14 "Nestprint$Nodes" "numbers" "LNestprint$Row;") (by decide +kernel)) (fun _ h9 => h9) rfl dX3_count_1 ?_
  have hPc := hP.sub (ws' := [(h1, .inr (11, [v8, .int 0]))]) [1] rfl
  have hDc := hD.sub (ws' := [(h1, .inr (11, [v8, .int 0]))]) [1] (by decide) rfl
  have hKc := hK.sub (tys' := []) [] rfl
  have hFc := va_free (wc := [(h1, .inr (11, [v8, .int 0]))]) hD hS hA [1] rfl
  refine va_calli (va_runV (As := []) (rest := []) ⟨hx, hb, hml, hown, hts⟩ (kX4_size l dC dI g s.heap.size h1 v8 ) (cwV 0 hts gX3_count_X4_size rfl rfl rfl (by decide +kernel) ⟨Nat.le_of_ble_eq_true rfl, Nat.le_of_ble_eq_true rfl⟩) ⟨fun a U gg mk q => by obtain ⟨q0, q1, qP, qK, qD, qF⟩ := q; exact ⟨q0, q1, qP, va_K.moved (u := U) (U := U.calling gg mk a) (Vm.Alike.refl U.vm) qK, qD, ns_same qF⟩, va_recv hK hP (ci := 11) (q0 := 1) rfl rfl, fun U hU hW => ⟨rfl, by rw [hU], by rw [hU]; exact hPc, va_K.moved hW.alike hKc, hDc.weaken (fun _ _ _ _ => trivial), ns_call hF hS hFc hU hW⟩⟩ rfl rfl hl.1 rfl (lv_room (Nat.le_of_ble_eq_true rfl)) dX3_count_4 ⟨Nat.le_of_ble_eq_true rfl, Nat.le_of_ble_eq_true rfl⟩) hS (fun q _ h => hFc q h) hFc (fun r9 u t H1 locs ht hvm hw hB hz1 hk1 hS => ?_)
  obtain rfl := hw
  obtain ⟨hP1, hK1, hD1⟩ := hB
  rw [ht] at hP1
  have hK1 := va_K.moved hvm.symm hK1
  obtain ⟨hP, hD⟩ := va_join (wr := [(h0, .inr (10, [.ref h1, v0, v1, v2, v3, v4, v5, v6, v7]))]) (w1 := [(h1, .inr (11, [v8, .int 0]))]) hP hD [1] [0] rfl rfl (by decide) (by decide) hk1 hFc hP1 hD1
  have hK := (hK.sub (tys' := []) [] rfl).app hK1
  generalize H1 = H at hP hS ⊢
  have hP : va_P (dC, dI) vwCl [(h0, .inr (10, [.ref h1, v0, v1, v2, v3, v4, v5, v6, v7])), (h1, .inr (11, [v8, .int 0]))] H := hP
  have hD : va_D A [(h0, .inr (10, [.ref h1, v0, v1, v2, v3, v4, v5, v6, v7])), (h1, .inr (11, [v8, .int 0]))] := hD
  have hK : va_K (dC, dI) vwCl [] s := hK
  refine W.widen (k := 0) (n := 0) (Nat.le_of_ble_eq_true rfl) (Nat.le_of_ble_eq_true rfl) ?_
  have hP9 := hP.sub (ws' := [(h0, .inr (10, [.ref h1, v0, v1, v2, v3, v4, v5, v6, v7])), (h1, .inr (11, [v8, .int 0]))]) [0, 1] rfl
  have hD9 := hD.sub (ws' := [(h0, .inr (10, [.ref h1, v0, v1, v2, v3, v4, v5, v6, v7])), (h1, .inr (11, [v8, .int 0]))]) [0, 1] (by decide) rfl
  have hK9 := hK.sub (tys' := []) [] rfl
  refine W.widen (k := 0) (n := 0) (Nat.le_of_ble_eq_true rfl) (Nat.le_of_ble_eq_true rfl) ?_
  exact W.iret (v := 0) hx hb hr (fun t ht hW => ⟨⟨_, (), rfl, rfl, by rw [ht]; exact hP9, va_K.moved hW.alike hK9, hD9⟩, hS.F ht⟩) hS.2.2 dX3_count_7
set_option maxHeartbeats 4000000 in
set_option maxRecDepth 100000 in
theorem kX9_needNumber (l : Launch) (dC : Nat → ClassId) (dI : Nat → Nat → Nat) (g : Nat → Nat) (sz : Nat) (h0 : Nat) (h1 : Nat) (h2 : Nat) (v0 : Value) (v1 : Value) (v2 : Value) (v3 : Value) (v4 : Value) (v5 : Value) (v6 : Value) (v7 : Value) (v8 : Value) (v9 : Value) (v10 : Value) (v11 : Value) (v12 : Value) (v13 : Value) (v14 : Value) (v15 : Value) (v16 : Value) (v17 : Value) (v18 : Value) (v19 : Value) (v20 : Value) (v21 : Value) (v22 : Value) (v23 : Value) : Met l yX9_needNumber wsX9_needNumber ({ frames := 2, cells := 0, slots := 0, locals := 40 }) (va_Pc [.ref h0] (fun U => U.heap.size = sz ∧ va_P (dC, dI) vwCl [(h0, .inr (16, [.ref h1, v0, v1, v2, v3, v4, v5, v6, v7, v8, v9, v10, v11, v12, v13, v14])), (h1, .inr (10, [.ref h2, v15, v16, v17, v18, v19, v20, v21, v22])), (h2, .inr (11, [v23, .int 0]))] U.heap ∧ va_K (dC, dI) vwCl [] U ∧ va_D (fun _ => True) [(h0, .inr (16, [.ref h1, v0, v1, v2, v3, v4, v5, v6, v7, v8, v9, v10, v11, v12, v13, v14])), (h1, .inr (10, [.ref h2, v15, v16, v17, v18, v19, v20, v21, v22])), (h2, .inr (11, [v23, .int 0]))] ∧ ns_F g (va_A [(h0, .inr (16, [.ref h1, v0, v1, v2, v3, v4, v5, v6, v7, v8, v9, v10, v11, v12, v13, v14])), (h1, .inr (10, [.ref h2, v15, v16, v17, v18, v19, v20, v21, v22])), (h2, .inr (11, [v23, .int 0]))] sz) U U.heap)) (va_Qv (fun _ : Unit => True) (fun _ t => va_P (dC, dI) vwCl [(h0, .inr (16, [.ref h1, v0, v1, v2, v3, v4, v5, v6, v7, v8, v9, v10, v11, v12, v13, v14])), (h1, .inr (10, [.ref h2, v15, v16, v17, v18, v19, v20, v21, v22])), (h2, .inr (11, [v23, .int 0]))] t.heap ∧ va_K (dC, dI) vwCl [] t ∧ va_D (va_A [(h0, .inr (16, [.ref h1, v0, v1, v2, v3, v4, v5, v6, v7, v8, v9, v10, v11, v12, v13, v14])), (h1, .inr (10, [.ref h2, v15, v16, v17, v18, v19, v20, v21, v22])), (h2, .inr (11, [v23, .int 0]))] sz) [(h0, .inr (16, [.ref h1, v0, v1, v2, v3, v4, v5, v6, v7, v8, v9, v10, v11, v12, v13, v14])), (h1, .inr (10, [.ref h2, v15, v16, v17, v18, v19, v20, v21, v22])), (h2, .inr (11, [v23, .int 0]))]) (va_A [(h0, .inr (16, [.ref h1, v0, v1, v2, v3, v4, v5, v6, v7, v8, v9, v10, v11, v12, v13, v14])), (h1, .inr (10, [.ref h2, v15, v16, v17, v18, v19, v20, v21, v22])), (h2, .inr (11, [v23, .int 0]))] sz)) 0 0 (va_A [(h0, .inr (16, [.ref h1, v0, v1, v2, v3, v4, v5, v6, v7, v8, v9, v10, v11, v12, v13, v14])), (h1, .inr (10, [.ref h2, v15, v16, v17, v18, v19, v20, v21, v22])), (h2, .inr (11, [v23, .int 0]))] sz) := by
  refine Met.ofW (cc := cX9_needNumber) (maxL := 1) (ret := none) (by decide) rfl ?_
  intro p e s m args below meth c s₁ B hml hv
  obtain ⟨rfl, hsz, hP, hK, hD0, hF⟩ := hv
  have hx := B.exec
  have hb := B.bytes
  have hr := B.returns
  have hts := atoms_spec (ws := wsX9_needNumber) B.pre
  have hown : s.vm.findClass RX9 = some m.cls := findClass_of_methodNamed B.named
  have hlocks := B.notSynchronized
  subst hsz
  have hD := hD0.self (sz := s.heap.size)
  generalize hAe : va_A [(h0, .inr (16, [.ref h1, v0, v1, v2, v3, v4, v5, v6, v7, v8, v9, v10, v11, v12, v13, v14])), (h1, .inr (10, [.ref h2, v15, v16, v17, v18, v19, v20, v21, v22])), (h2, .inr (11, [v23, .int 0]))] s.heap.size = A at hD hF ⊢
  have hA : ∀ q : Nat, s.heap.size ≤ q → A q := fun q h => by rw [← hAe]; exact Or.inr h
  have hS : va_S A s.heap s.heap [] := va_S.rf
  have hP : va_P (dC, dI) vwCl [(h0, .inr (16, [.ref h1, v0, v1, v2, v3, v4, v5, v6, v7, v8, v9, v10, v11, v12, v13, v14])), (h1, .inr (10, [.ref h2, v15, v16, v17, v18, v19, v20, v21, v22])), (h2, .inr (11, [v23, .int 0]))] s.heap := hP
  have hl := lv_entry ([.ref h0]) (n := 1) (Nat.le_of_ble_eq_true rfl)
  rw [lg_entry_eq]
  generalize (lg_sl ([.ref h0]) ++ List.replicate (1 - (lg_sl ([.ref h0])).length) Slot.unset).toArray = ls at hl ⊢
  have hl : lv_has ls 1 [(0, .ref h0)] := hl
  refine lv_aload_n hx hb dX9_needNumber_0 rfl (lv_at hl 0 rfl) ?_
  refine va_get (D := (dC, dI)) (ci := 16) (v := .ref h1) (C := RX9) (T := TX9) (N := 16) hx hb hts (by decide +kernel) hown hK hP 0 rfl rfl 0 (by decide) (hts (.fieldLink RX9 12 "Nestprint" "nodes" "LNestprint$Nodes;") (by decide +kernel)) (fun _ h9 => h9) rfl dX9_needNumber_1 ?_
  have hPc := hP.sub (ws' := [(h1, .inr (10, [.ref h2, v15, v16, v17, v18, v19, v20, v21, v22])), (h2, .inr (11, [v23, .int 0]))]) [1, 2] rfl
  have hDc := hD.sub (ws' := [(h1, .inr (10, [.ref h2, v15, v16, v17, v18, v19, v20, v21, v22])), (h2, .inr (11, [v23, .int 0]))]) [1, 2] (by decide) rfl
  have hKc := hK.sub (tys' := []) [] rfl
  have hFc := va_free (wc := [(h1, .inr (10, [.ref h2, v15, v16, v17, v18, v19, v20, v21, v22])), (h2, .inr (11, [v23, .int 0]))]) hD hS hA [1, 2] rfl
  refine va_calli (va_runV (As := []) (rest := []) ⟨hx, hb, hml, hown, hts⟩ (kX3_count l dC dI g s.heap.size h1 h2 v15 v16 v17 v18 v19 v20 v21 v22 v23 ) (cwV 0 hts gX9_needNumber_X3_count rfl rfl rfl (by decide +kernel) ⟨Nat.le_of_ble_eq_true rfl, Nat.le_of_ble_eq_true rfl⟩) ⟨fun a U gg mk q => by obtain ⟨q0, q1, qP, qK, qD, qF⟩ := q; exact ⟨q0, q1, qP, va_K.moved (u := U) (U := U.calling gg mk a) (Vm.Alike.refl U.vm) qK, qD, ns_same qF⟩, va_recv hK hP (ci := 10) (q0 := 1) rfl rfl, fun U hU hW => ⟨rfl, by rw [hU], by rw [hU]; exact hPc, va_K.moved hW.alike hKc, hDc.weaken (fun _ _ _ _ => trivial), ns_call hF hS hFc hU hW⟩⟩ rfl rfl hl.1 rfl (lv_room (Nat.le_of_ble_eq_true rfl)) dX9_needNumber_4 ⟨Nat.le_of_ble_eq_true rfl, Nat.le_of_ble_eq_true rfl⟩) hS (fun q _ h => hFc q h) hFc (fun r9 u t H1 locs ht hvm hw hB hz1 hk1 hS => ?_)
  obtain rfl := hw
  obtain ⟨hP1, hK1, hD1⟩ := hB
  rw [ht] at hP1
  have hK1 := va_K.moved hvm.symm hK1
  obtain ⟨hP, hD⟩ := va_join (wr := [(h0, .inr (16, [.ref h1, v0, v1, v2, v3, v4, v5, v6, v7, v8, v9, v10, v11, v12, v13, v14]))]) (w1 := [(h1, .inr (10, [.ref h2, v15, v16, v17, v18, v19, v20, v21, v22])), (h2, .inr (11, [v23, .int 0]))]) hP hD [1, 2] [0] rfl rfl (by decide) (by decide) hk1 hFc hP1 hD1
  have hK := (hK.sub (tys' := []) [] rfl).app hK1
  generalize H1 = H at hP hS ⊢
  have hP : va_P (dC, dI) vwCl [(h0, .inr (16, [.ref h1, v0, v1, v2, v3, v4, v5, v6, v7, v8, v9, v10, v11, v12, v13, v14])), (h1, .inr (10, [.ref h2, v15, v16, v17, v18, v19, v20, v21, v22])), (h2, .inr (11, [v23, .int 0]))] H := hP
  have hD : va_D A [(h0, .inr (16, [.ref h1, v0, v1, v2, v3, v4, v5, v6, v7, v8, v9, v10, v11, v12, v13, v14])), (h1, .inr (10, [.ref h2, v15, v16, v17, v18, v19, v20, v21, v22])), (h2, .inr (11, [v23, .int 0]))] := hD
  have hK : va_K (dC, dI) vwCl [] s := hK
  refine W.widen (k := 0) (n := 0) (Nat.le_of_ble_eq_true rfl) (Nat.le_of_ble_eq_true rfl) ?_
  refine lv_bipush (v := 80) hx hb dX9_needNumber_7 (by decide) ?_
  refine lv_icmp_lt (tgt := 23) hx hb dX9_needNumber_9 (by decide) (fun c1 => ?_) (fun c1 => absurd (by decide) c1)
  have hP9 := hP.sub (ws' := [(h0, .inr (16, [.ref h1, v0, v1, v2, v3, v4, v5, v6, v7, v8, v9, v10, v11, v12, v13, v14])), (h1, .inr (10, [.ref h2, v15, v16, v17, v18, v19, v20, v21, v22])), (h2, .inr (11, [v23, .int 0]))]) [0, 1, 2] rfl
  have hD9 := hD.sub (ws' := [(h0, .inr (16, [.ref h1, v0, v1, v2, v3, v4, v5, v6, v7, v8, v9, v10, v11, v12, v13, v14])), (h1, .inr (10, [.ref h2, v15, v16, v17, v18, v19, v20, v21, v22])), (h2, .inr (11, [v23, .int 0]))]) [0, 1, 2] (by decide) rfl
  have hK9 := hK.sub (tys' := []) [] rfl
  refine W.widen (k := 0) (n := 0) (Nat.le_of_ble_eq_true rfl) (Nat.le_of_ble_eq_true rfl) ?_
  exact W.vret hx hb hr (fun t ht hW => ⟨⟨(), rfl, trivial, by rw [ht]; exact hP9, va_K.moved hW.alike hK9, hD9⟩, hS.F ht⟩) hS.2.2 dX9_needNumber_23
set_option maxHeartbeats 4000000 in
set_option maxRecDepth 100000 in
theorem kX4_add (l : Launch) (dC : Nat → ClassId) (dI : Nat → Nat → Nat) (g : Nat → Nat) (sz : Nat) (h0 : Nat) (x0 : Int32) (h1 : Nat) (cc0 : ClassId) (f0 : Nat → Int32) : Met l yX4_add wsX4_add ({ frames := 0, cells := 0, slots := 0, locals := 0 }) (va_Pc [.ref h0, .int x0] (fun U => U.heap.size = sz ∧ va_P (dC, dI) vwCl [(h0, .inr (11, [.ref h1, .int 0])), (h1, .inl (cc0, 4960, .inl f0))] U.heap ∧ va_K (dC, dI) vwCl [(cc0, .int)] U ∧ va_D (fun _ => True) [(h0, .inr (11, [.ref h1, .int 0])), (h1, .inl (cc0, 4960, .inl f0))] ∧ ns_F g (va_A [(h0, .inr (11, [.ref h1, .int 0])), (h1, .inl (cc0, 4960, .inl f0))] sz) U U.heap)) (va_Qv (fun _ : Unit => True) (fun _ t => va_P (dC, dI) vwCl [(h0, .inr (11, [.ref h1, .int 1])), (h1, .inl (cc0, 4960, .inl (upd (f0) 0 x0)))] t.heap ∧ va_K (dC, dI) vwCl [(cc0, .int)] t ∧ va_D (va_A [(h0, .inr (11, [.ref h1, .int 0])), (h1, .inl (cc0, 4960, .inl f0))] sz) [(h0, .inr (11, [.ref h1, .int 1])), (h1, .inl (cc0, 4960, .inl (upd (f0) 0 x0)))]) (va_A [(h0, .inr (11, [.ref h1, .int 0])), (h1, .inl (cc0, 4960, .inl f0))] sz)) 0 0 (va_A [(h0, .inr (11, [.ref h1, .int 0])), (h1, .inl (cc0, 4960, .inl f0))] sz) := by
  refine Met.ofW (cc := cX4_add) (maxL := 2) (ret := none) (by decide) rfl ?_
  intro p e s m args below meth c s₁ B hml hv
  obtain ⟨rfl, hsz, hP, hK, hD0, hF⟩ := hv
  have hx := B.exec
  have hb := B.bytes
  have hr := B.returns
  have hts := atoms_spec (ws := wsX4_add) B.pre
  have hown : s.vm.findClass RX4 = some m.cls := findClass_of_methodNamed B.named
  have hlocks := B.notSynchronized
  subst hsz
  have hD := hD0.self (sz := s.heap.size)
  generalize hAe : va_A [(h0, .inr (11, [.ref h1, .int 0])), (h1, .inl (cc0, 4960, .inl f0))] s.heap.size = A at hD hF ⊢
  have hA : ∀ q : Nat, s.heap.size ≤ q → A q := fun q h => by rw [← hAe]; exact Or.inr h
  have hS : va_S A s.heap s.heap [] := va_S.rf
  have hP : va_P (dC, dI) vwCl [(h0, .inr (11, [.ref h1, .int 0])), (h1, .inl (cc0, 4960, .inl f0))] s.heap := hP
  have hl := lv_entry ([.ref h0, .int x0]) (n := 2) (Nat.le_of_ble_eq_true rfl)
  rw [lg_entry_eq]
  generalize (lg_sl ([.ref h0, .int x0]) ++ List.replicate (2 - (lg_sl ([.ref h0, .int x0])).length) Slot.unset).toArray = ls at hl ⊢
  have hl : lv_has ls 2 [(0, .ref h0), (1, .int x0)] := hl
  refine lv_aload_n hx hb dX4_add_0 rfl (lv_at hl 0 rfl) ?_
  refine va_get (D := (dC, dI)) (ci := 11) (v := .int 0) (C := RX4) (T := TX4) (N := 2) hx hb hts (by decide +kernel) hown hK hP 0 rfl rfl 1 (by decide) (hts (.fieldLink RX4 7 "Nestprint$Row" "size" "I") (by decide +kernel)) (fun _ h9 => h9) rfl dX4_add_1 ?_
  refine lv_if_lt (tgt := 39) hx hb dX4_add_4 (by decide) (fun c1 => absurd c1 (by decide)) (fun c1 => ?_)
  refine lv_aload_n hx hb dX4_add_7 rfl (lv_at hl 0 rfl) ?_
  refine va_get (D := (dC, dI)) (ci := 11) (v := .int 0) (C := RX4) (T := TX4) (N := 2) hx hb hts (by decide +kernel) hown hK hP 0 rfl rfl 1 (by decide) (hts (.fieldLink RX4 7 "Nestprint$Row" "size" "I") (by decide +kernel)) (fun _ h9 => h9) rfl dX4_add_8 ?_
  refine lv_aload_n hx hb dX4_add_11 rfl (lv_at hl 0 rfl) ?_
  refine va_get (D := (dC, dI)) (ci := 11) (v := .ref h1) (C := RX4) (T := TX4) (N := 2) hx hb hts (by decide +kernel) hown hK hP 0 rfl rfl 0 (by decide) (hts (.fieldLink RX4 13 "Nestprint$Row" "cells" "[I") (by decide +kernel)) (fun _ h9 => h9) rfl dX4_add_12 ?_
  refine va_alen (v := 4960) hx hb hK hP 1 0 rfl rfl (by decide) dX4_add_15 ?_
  refine lv_icmp_ge (tgt := 39) hx hb dX4_add_16 (by decide) (fun c2 => absurd c2 (by decide)) (fun c2 => ?_)
  refine lv_aload_n hx hb dX4_add_19 rfl (lv_at hl 0 rfl) ?_
  refine va_get (D := (dC, dI)) (ci := 11) (v := .ref h1) (C := RX4) (T := TX4) (N := 2) hx hb hts (by decide +kernel) hown hK hP 0 rfl rfl 0 (by decide) (hts (.fieldLink RX4 13 "Nestprint$Row" "cells" "[I") (by decide +kernel)) (fun _ h9 => h9) rfl dX4_add_20 ?_
  refine lv_aload_n hx hb dX4_add_23 rfl (lv_at hl 0 rfl) ?_
  refine va_get (D := (dC, dI)) (ci := 11) (v := .int 0) (C := RX4) (T := TX4) (N := 2) hx hb hts (by decide +kernel) hown hK hP 0 rfl rfl 1 (by decide) (hts (.fieldLink RX4 7 "Nestprint$Row" "size" "I") (by decide +kernel)) (fun _ h9 => h9) rfl dX4_add_24 ?_
  refine lv_iload_n hx hb dX4_add_27 rfl (lv_at hl 1 rfl) ?_
  refine va_iast hx hb hK hP hD hS 1 0 rfl rfl (vp_in_nI (n := 0) (by decide) (by decide)) dX4_add_28 (fun H locs hP hD hS => ?_)
  have hP : va_P (dC, dI) vwCl [(h0, .inr (11, [.ref h1, .int 0])), (h1, .inl (cc0, 4960, .inl (upd (f0) 0 x0)))] H := hP
  have hD : va_D A [(h0, .inr (11, [.ref h1, .int 0])), (h1, .inl (cc0, 4960, .inl (upd (f0) 0 x0)))] := hD
  refine lv_aload_n hx hb dX4_add_29 rfl (lv_at hl 0 rfl) ?_
  refine lv_dup hx hb dX4_add_30 rfl ?_
  refine va_get (D := (dC, dI)) (ci := 11) (v := .int 0) (C := RX4) (T := TX4) (N := 2) hx hb hts (by decide +kernel) hown hK hP 0 rfl rfl 1 (by decide) (hts (.fieldLink RX4 7 "Nestprint$Row" "size" "I") (by decide +kernel)) (fun _ h9 => h9) rfl dX4_add_31 ?_
  refine lv_iconst (v := 1) hx hb dX4_add_34 (by decide) ?_
  refine lv_iadd hx hb dX4_add_35 ?_
  refine lv_topi (fun y3 ey3 => ?_)
  obtain rfl : y3 = 1 := ey3.trans (by decide)
  refine va_put (D := (dC, dI)) (ci := 11) (v := .int 1) (ty := .int) (C := RX4) (T := TX4) (N := 2) hx hb hts (by decide +kernel) tyX4 tyX4_ok nmX4 hown hK hP hD hS 0 rfl rfl 1 (by decide) (hts (.fieldLink RX4 7 "Nestprint$Row" "size" "I") (by decide +kernel)) (fun _ h9 => h9) rfl (by decide +kernel) rfl rfl (Nat.le_of_ble_eq_true rfl) dX4_add_36 (fun H locs hP hD hS => ?_)
  have hP : va_P (dC, dI) vwCl [(h0, .inr (11, [.ref h1, .int 1])), (h1, .inl (cc0, 4960, .inl (upd (f0) 0 x0)))] H := hP
  have hD : va_D A [(h0, .inr (11, [.ref h1, .int 1])), (h1, .inl (cc0, 4960, .inl (upd (f0) 0 x0)))] := hD
  have hP9 := hP.sub (ws' := [(h0, .inr (11, [.ref h1, .int 1])), (h1, .inl (cc0, 4960, .inl (upd (f0) 0 x0)))]) [0, 1] rfl
  have hD9 := hD.sub (ws' := [(h0, .inr (11, [.ref h1, .int 1])), (h1, .inl (cc0, 4960, .inl (upd (f0) 0 x0)))]) [0, 1] (by decide) rfl
  have hK9 := hK.sub (tys' := [(cc0, .int)]) [0] rfl
  refine W.widen (k := 0) (n := 0) (Nat.le_of_ble_eq_true rfl) (Nat.le_of_ble_eq_true rfl) ?_
  exact W.vret hx hb hr (fun t ht hW => ⟨⟨(), rfl, trivial, by rw [ht]; exact hP9, va_K.moved hW.alike hK9, hD9⟩, hS.F ht⟩) hS.2.2 dX4_add_39
set_option maxHeartbeats 4000000 in
set_option maxRecDepth 100000 in
theorem kX3_addSign (l : Launch) (dC : Nat → ClassId) (dI : Nat → Nat → Nat) (g : Nat → Nat) (sz : Nat) (h0 : Nat) (x0 : Int32) (h1 : Nat) (h2 : Nat) (v0 : Value) (v1 : Value) (v2 : Value) (v3 : Value) (v4 : Value) (v5 : Value) (v6 : Value) (v7 : Value) (cc0 : ClassId) (f0 : Nat → Int32) : Met l yX3_addSign wsX3_addSign ({ frames := 1, cells := 0, slots := 0, locals := 21 }) (va_Pc [.ref h0, .int x0] (fun U => U.heap.size = sz ∧ va_P (dC, dI) vwCl [(h0, .inr (10, [v0, v1, v2, v3, v4, v5, v6, v7, .ref h1])), (h1, .inr (11, [.ref h2, .int 0])), (h2, .inl (cc0, 4960, .inl f0))] U.heap ∧ va_K (dC, dI) vwCl [(cc0, .int)] U ∧ va_D (fun _ => True) [(h0, .inr (10, [v0, v1, v2, v3, v4, v5, v6, v7, .ref h1])), (h1, .inr (11, [.ref h2, .int 0])), (h2, .inl (cc0, 4960, .inl f0))] ∧ ns_F g (va_A [(h0, .inr (10, [v0, v1, v2, v3, v4, v5, v6, v7, .ref h1])), (h1, .inr (11, [.ref h2, .int 0])), (h2, .inl (cc0, 4960, .inl f0))] sz) U U.heap)) (va_Qv (fun _ : Unit => True) (fun _ t => va_P (dC, dI) vwCl [(h0, .inr (10, [v0, v1, v2, v3, v4, v5, v6, v7, .ref h1])), (h1, .inr (11, [.ref h2, .int 1])), (h2, .inl (cc0, 4960, .inl (upd (f0) 0 x0)))] t.heap ∧ va_K (dC, dI) vwCl [(cc0, .int)] t ∧ va_D (va_A [(h0, .inr (10, [v0, v1, v2, v3, v4, v5, v6, v7, .ref h1])), (h1, .inr (11, [.ref h2, .int 0])), (h2, .inl (cc0, 4960, .inl f0))] sz) [(h0, .inr (10, [v0, v1, v2, v3, v4, v5, v6, v7, .ref h1])), (h1, .inr (11, [.ref h2, .int 1])), (h2, .inl (cc0, 4960, .inl (upd (f0) 0 x0)))]) (va_A [(h0, .inr (10, [v0, v1, v2, v3, v4, v5, v6, v7, .ref h1])), (h1, .inr (11, [.ref h2, .int 0])), (h2, .inl (cc0, 4960, .inl f0))] sz)) 0 0 (va_A [(h0, .inr (10, [v0, v1, v2, v3, v4, v5, v6, v7, .ref h1])), (h1, .inr (11, [.ref h2, .int 0])), (h2, .inl (cc0, 4960, .inl f0))] sz) := by
  refine Met.ofW (cc := cX3_addSign) (maxL := 2) (ret := none) (by decide) rfl ?_
  intro p e s m args below meth c s₁ B hml hv
  obtain ⟨rfl, hsz, hP, hK, hD0, hF⟩ := hv
  have hx := B.exec
  have hb := B.bytes
  have hr := B.returns
  have hts := atoms_spec (ws := wsX3_addSign) B.pre
  have hown : s.vm.findClass RX3 = some m.cls := findClass_of_methodNamed B.named
  have hlocks := B.notSynchronized
  subst hsz
  have hD := hD0.self (sz := s.heap.size)
  generalize hAe : va_A [(h0, .inr (10, [v0, v1, v2, v3, v4, v5, v6, v7, .ref h1])), (h1, .inr (11, [.ref h2, .int 0])), (h2, .inl (cc0, 4960, .inl f0))] s.heap.size = A at hD hF ⊢
  have hA : ∀ q : Nat, s.heap.size ≤ q → A q := fun q h => by rw [← hAe]; exact Or.inr h
  have hS : va_S A s.heap s.heap [] := va_S.rf
  have hP : va_P (dC, dI) vwCl [(h0, .inr (10, [v0, v1, v2, v3, v4, v5, v6, v7, .ref h1])), (h1, .inr (11, [.ref h2, .int 0])), (h2, .inl (cc0, 4960, .inl f0))] s.heap := hP
  have hl := lv_entry ([.ref h0, .int x0]) (n := 2) (Nat.le_of_ble_eq_true rfl)
  rw [lg_entry_eq]
  generalize (lg_sl ([.ref h0, .int x0]) ++ List.replicate (2 - (lg_sl ([.ref h0, .int x0])).length) Slot.unset).toArray = ls at hl ⊢
  have hl : lv_has ls 2 [(0, .ref h0), (1, .int x0)] := hl
  refine lv_aload_n hx hb dX3_addSign_0 rfl (lv_at hl 0 rfl) ?_
  refine va_get (D := (dC, dI)) (ci := 10) (v := .ref h1) (C := RX3) (T := TX3) (N := 9) hx hb hts (by decide +kernel) hown hK hP 0 rfl rfl 8 (by decide) (hts (.fieldLink RX3 41 "Nestprint$Nodes" "signs" "LNestprint$Row;") (by decide +kernel)) (fun _ h9 => h9) rfl dX3_addSign_1 ?_
  refine lv_iload_n hx hb dX3_addSign_4 rfl (lv_at hl 1 rfl) ?_
  have hPc := hP.sub (ws' := [(h1, .inr (11, [.ref h2, .int 0])), (h2, .inl (cc0, 4960, .inl f0))]) [1, 2] rfl
  have hDc := hD.sub (ws' := [(h1, .inr (11, [.ref h2, .int 0])), (h2, .inl (cc0, 4960, .inl f0))]) [1, 2] (by decide) rfl
  have hKc := hK.sub (tys' := [(cc0, .int)]) [0] rfl
  have hFc := va_free (wc := [(h1, .inr (11, [.ref h2, .int 0])), (h2, .inl (cc0, 4960, .inl f0))]) hD hS hA [1, 2] rfl
  refine va_callv (va_runV (As := [.int x0]) (rest := []) ⟨hx, hb, hml, hown, hts⟩ (kX4_add l dC dI g s.heap.size h1 x0 h2 cc0 f0 ) (cwV 1 hts gX3_addSign_X4_add rfl rfl rfl (by decide +kernel) ⟨Nat.le_of_ble_eq_true rfl, Nat.le_of_ble_eq_true rfl⟩) ⟨fun a U gg mk q => by obtain ⟨q0, q1, qP, qK, qD, qF⟩ := q; exact ⟨q0, q1, qP, va_K.moved (u := U) (U := U.calling gg mk a) (Vm.Alike.refl U.vm) qK, qD, ns_same qF⟩, va_recv hK hP (ci := 11) (q0 := 1) rfl rfl, fun U hU hW => ⟨rfl, by rw [hU], by rw [hU]; exact hPc, va_K.moved hW.alike hKc, hDc.weaken (fun _ _ _ _ => trivial), ns_call hF hS hFc hU hW⟩⟩ rfl rfl hl.1 rfl (lv_room (Nat.le_of_ble_eq_true rfl)) dX3_addSign_5 ⟨Nat.le_of_ble_eq_true rfl, Nat.le_of_ble_eq_true rfl⟩) hS (fun q _ h => hFc q h) hFc (fun u t H1 locs ht hvm hw hB hz1 hk1 hS => ?_)
  obtain ⟨hP1, hK1, hD1⟩ := hB
  rw [ht] at hP1
  have hK1 := va_K.moved hvm.symm hK1
  obtain ⟨hP, hD⟩ := va_join (wr := [(h0, .inr (10, [v0, v1, v2, v3, v4, v5, v6, v7, .ref h1]))]) (w1 := [(h1, .inr (11, [.ref h2, .int 1])), (h2, .inl (cc0, 4960, .inl (upd (f0) 0 x0)))]) hP hD [1, 2] [0] rfl rfl (by decide) (by decide) hk1 hFc hP1 hD1
  have hK := (hK.sub (tys' := []) [] rfl).app hK1
  generalize H1 = H at hP hS ⊢
  have hP : va_P (dC, dI) vwCl [(h0, .inr (10, [v0, v1, v2, v3, v4, v5, v6, v7, .ref h1])), (h1, .inr (11, [.ref h2, .int 1])), (h2, .inl (cc0, 4960, .inl (upd (f0) 0 x0)))] H := hP
  have hD : va_D A [(h0, .inr (10, [v0, v1, v2, v3, v4, v5, v6, v7, .ref h1])), (h1, .inr (11, [.ref h2, .int 1])), (h2, .inl (cc0, 4960, .inl (upd (f0) 0 x0)))] := hD
  have hK : va_K (dC, dI) vwCl [(cc0, .int)] s := hK
  refine W.widen (k := 0) (n := 0) (Nat.le_of_ble_eq_true rfl) (Nat.le_of_ble_eq_true rfl) ?_
  have hP9 := hP.sub (ws' := [(h0, .inr (10, [v0, v1, v2, v3, v4, v5, v6, v7, .ref h1])), (h1, .inr (11, [.ref h2, .int 1])), (h2, .inl (cc0, 4960, .inl (upd (f0) 0 x0)))]) [0, 1, 2] rfl
  have hD9 := hD.sub (ws' := [(h0, .inr (10, [v0, v1, v2, v3, v4, v5, v6, v7, .ref h1])), (h1, .inr (11, [.ref h2, .int 1])), (h2, .inl (cc0, 4960, .inl (upd (f0) 0 x0)))]) [0, 1, 2] (by decide) rfl
  have hK9 := hK.sub (tys' := [(cc0, .int)]) [0] rfl
  refine W.widen (k := 0) (n := 0) (Nat.le_of_ble_eq_true rfl) (Nat.le_of_ble_eq_true rfl) ?_
  exact W.vret hx hb hr (fun t ht hW => ⟨⟨(), rfl, trivial, by rw [ht]; exact hP9, va_K.moved hW.alike hK9, hD9⟩, hS.F ht⟩) hS.2.2 dX3_addSign_8
set_option maxHeartbeats 4000000 in
set_option maxRecDepth 100000 in
theorem kX4_size_2 (l : Launch) (dC : Nat → ClassId) (dI : Nat → Nat → Nat) (g : Nat → Nat) (sz : Nat) (h0 : Nat) (v0 : Value) : Met l yX4_size wsX4_size ({ frames := 0, cells := 0, slots := 0, locals := 0 }) (va_Pc [.ref h0] (fun U => U.heap.size = sz ∧ va_P (dC, dI) vwCl [(h0, .inr (11, [v0, .int 1]))] U.heap ∧ va_K (dC, dI) vwCl [] U ∧ va_D (fun _ => True) [(h0, .inr (11, [v0, .int 1]))] ∧ ns_F g (va_A [(h0, .inr (11, [v0, .int 1]))] sz) U U.heap)) (va_Qi (fun (r : Int32) (_ : Unit) => r = 1) (fun _ t => va_P (dC, dI) vwCl [(h0, .inr (11, [v0, .int 1]))] t.heap ∧ va_K (dC, dI) vwCl [] t ∧ va_D (va_A [(h0, .inr (11, [v0, .int 1]))] sz) [(h0, .inr (11, [v0, .int 1]))]) (va_A [(h0, .inr (11, [v0, .int 1]))] sz)) 0 0 (va_A [(h0, .inr (11, [v0, .int 1]))] sz) := by
  refine Met.ofW (cc := cX4_size) (maxL := 1) (ret := (some .int)) (by decide) rfl ?_
  intro p e s m args below meth c s₁ B hml hv
  obtain ⟨rfl, hsz, hP, hK, hD0, hF⟩ := hv
  have hx := B.exec
  have hb := B.bytes
  have hr := B.returns
  have hts := atoms_spec (ws := wsX4_size) B.pre
  have hown : s.vm.findClass RX4 = some m.cls := findClass_of_methodNamed B.named
  have hlocks := B.notSynchronized
  subst hsz
  have hD := hD0.self (sz := s.heap.size)
  generalize hAe : va_A [(h0, .inr (11, [v0, .int 1]))] s.heap.size = A at hD hF ⊢
  have hA : ∀ q : Nat, s.heap.size ≤ q → A q := fun q h => by rw [← hAe]; exact Or.inr h
  have hS : va_S A s.heap s.heap [] := va_S.rf
  have hP : va_P (dC, dI) vwCl [(h0, .inr (11, [v0, .int 1]))] s.heap := hP
  have hl := lv_entry ([.ref h0]) (n := 1) (Nat.le_of_ble_eq_true rfl)
  rw [lg_entry_eq]
  generalize (lg_sl ([.ref h0]) ++ List.replicate (1 - (lg_sl ([.ref h0])).length) Slot.unset).toArray = ls at hl ⊢
  have hl : lv_has ls 1 [(0, .ref h0)] := hl
  refine lv_aload_n hx hb dX4_size_0 rfl (lv_at hl 0 rfl) ?_
  refine va_get (D := (dC, dI)) (ci := 11) (v := .int 1) (C := RX4) (T := TX4) (N := 2) hx hb hts (by decide +kernel) hown hK hP 0 rfl rfl 1 (by decide) (hts (.fieldLink RX4 7 "Nestprint$Row" "size" "I") (by decide +kernel)) (fun _ h9 => h9) rfl dX4_size_1 ?_
  have hP9 := hP.sub (ws' := [(h0, .inr (11, [v0, .int 1]))]) [0] rfl
  have hD9 := hD.sub (ws' := [(h0, .inr (11, [v0, .int 1]))]) [0] (by decide) rfl
  have hK9 := hK.sub (tys' := []) [] rfl
  refine W.widen (k := 0) (n := 0) (Nat.le_of_ble_eq_true rfl) (Nat.le_of_ble_eq_true rfl) ?_
  exact W.iret (v := 1) hx hb hr (fun t ht hW => ⟨⟨_, (), rfl, rfl, by rw [ht]; exact hP9, va_K.moved hW.alike hK9, hD9⟩, hS.F ht⟩) hS.2.2 dX4_size_4
set_option maxHeartbeats 4000000 in
set_option maxRecDepth 100000 in
theorem kX4_add_2 (l : Launch) (dC : Nat → ClassId) (dI : Nat → Nat → Nat) (g : Nat → Nat) (sz : Nat) (h0 : Nat) (h1 : Nat) (cc0 : ClassId) (f0 : Nat → Int32) : Met l yX4_add wsX4_add ({ frames := 0, cells := 0, slots := 0, locals := 0 }) (va_Pc [.ref h0, .int 0] (fun U => U.heap.size = sz ∧ va_P (dC, dI) vwCl [(h0, .inr (11, [.ref h1, .int 0])), (h1, .inl (cc0, 4960, .inl f0))] U.heap ∧ va_K (dC, dI) vwCl [(cc0, .int)] U ∧ va_D (fun _ => True) [(h0, .inr (11, [.ref h1, .int 0])), (h1, .inl (cc0, 4960, .inl f0))] ∧ ns_F g (va_A [(h0, .inr (11, [.ref h1, .int 0])), (h1, .inl (cc0, 4960, .inl f0))] sz) U U.heap)) (va_Qv (fun _ : Unit => True) (fun _ t => va_P (dC, dI) vwCl [(h0, .inr (11, [.ref h1, .int 1])), (h1, .inl (cc0, 4960, .inl (upd (f0) 0 0)))] t.heap ∧ va_K (dC, dI) vwCl [(cc0, .int)] t ∧ va_D (va_A [(h0, .inr (11, [.ref h1, .int 0])), (h1, .inl (cc0, 4960, .inl f0))] sz) [(h0, .inr (11, [.ref h1, .int 1])), (h1, .inl (cc0, 4960, .inl (upd (f0) 0 0)))]) (va_A [(h0, .inr (11, [.ref h1, .int 0])), (h1, .inl (cc0, 4960, .inl f0))] sz)) 0 0 (va_A [(h0, .inr (11, [.ref h1, .int 0])), (h1, .inl (cc0, 4960, .inl f0))] sz) := by
  refine Met.ofW (cc := cX4_add) (maxL := 2) (ret := none) (by decide) rfl ?_
  intro p e s m args below meth c s₁ B hml hv
  obtain ⟨rfl, hsz, hP, hK, hD0, hF⟩ := hv
  have hx := B.exec
  have hb := B.bytes
  have hr := B.returns
  have hts := atoms_spec (ws := wsX4_add) B.pre
  have hown : s.vm.findClass RX4 = some m.cls := findClass_of_methodNamed B.named
  have hlocks := B.notSynchronized
  subst hsz
  have hD := hD0.self (sz := s.heap.size)
  generalize hAe : va_A [(h0, .inr (11, [.ref h1, .int 0])), (h1, .inl (cc0, 4960, .inl f0))] s.heap.size = A at hD hF ⊢
  have hA : ∀ q : Nat, s.heap.size ≤ q → A q := fun q h => by rw [← hAe]; exact Or.inr h
  have hS : va_S A s.heap s.heap [] := va_S.rf
  have hP : va_P (dC, dI) vwCl [(h0, .inr (11, [.ref h1, .int 0])), (h1, .inl (cc0, 4960, .inl f0))] s.heap := hP
  have hl := lv_entry ([.ref h0, .int 0]) (n := 2) (Nat.le_of_ble_eq_true rfl)
  rw [lg_entry_eq]
  generalize (lg_sl ([.ref h0, .int 0]) ++ List.replicate (2 - (lg_sl ([.ref h0, .int 0])).length) Slot.unset).toArray = ls at hl ⊢
  have hl : lv_has ls 2 [(0, .ref h0), (1, .int 0)] := hl
  refine lv_aload_n hx hb dX4_add_0 rfl (lv_at hl 0 rfl) ?_
  refine va_get (D := (dC, dI)) (ci := 11) (v := .int 0) (C := RX4) (T := TX4) (N := 2) hx hb hts (by decide +kernel) hown hK hP 0 rfl rfl 1 (by decide) (hts (.fieldLink RX4 7 "Nestprint$Row" "size" "I") (by decide +kernel)) (fun _ h9 => h9) rfl dX4_add_1 ?_
  refine lv_if_lt (tgt := 39) hx hb dX4_add_4 (by decide) (fun c1 => absurd c1 (by decide)) (fun c1 => ?_)
  refine lv_aload_n hx hb dX4_add_7 rfl (lv_at hl 0 rfl) ?_
  refine va_get (D := (dC, dI)) (ci := 11) (v := .int 0) (C := RX4) (T := TX4) (N := 2) hx hb hts (by decide +kernel) hown hK hP 0 rfl rfl 1 (by decide) (hts (.fieldLink RX4 7 "Nestprint$Row" "size" "I") (by decide +kernel)) (fun _ h9 => h9) rfl dX4_add_8 ?_
  refine lv_aload_n hx hb dX4_add_11 rfl (lv_at hl 0 rfl) ?_
  refine va_get (D := (dC, dI)) (ci := 11) (v := .ref h1) (C := RX4) (T := TX4) (N := 2) hx hb hts (by decide +kernel) hown hK hP 0 rfl rfl 0 (by decide) (hts (.fieldLink RX4 13 "Nestprint$Row" "cells" "[I") (by decide +kernel)) (fun _ h9 => h9) rfl dX4_add_12 ?_
  refine va_alen (v := 4960) hx hb hK hP 1 0 rfl rfl (by decide) dX4_add_15 ?_
  refine lv_icmp_ge (tgt := 39) hx hb dX4_add_16 (by decide) (fun c2 => absurd c2 (by decide)) (fun c2 => ?_)
  refine lv_aload_n hx hb dX4_add_19 rfl (lv_at hl 0 rfl) ?_
  refine va_get (D := (dC, dI)) (ci := 11) (v := .ref h1) (C := RX4) (T := TX4) (N := 2) hx hb hts (by decide +kernel) hown hK hP 0 rfl rfl 0 (by decide) (hts (.fieldLink RX4 13 "Nestprint$Row" "cells" "[I") (by decide +kernel)) (fun _ h9 => h9) rfl dX4_add_20 ?_
  refine lv_aload_n hx hb dX4_add_23 rfl (lv_at hl 0 rfl) ?_
  refine va_get (D := (dC, dI)) (ci := 11) (v := .int 0) (C := RX4) (T := TX4) (N := 2) hx hb hts (by decide +kernel) hown hK hP 0 rfl rfl 1 (by decide) (hts (.fieldLink RX4 7 "Nestprint$Row" "size" "I") (by decide +kernel)) (fun _ h9 => h9) rfl dX4_add_24 ?_
  refine lv_iload_n hx hb dX4_add_27 rfl (lv_at hl 1 rfl) ?_
  refine va_iast hx hb hK hP hD hS 1 0 rfl rfl (vp_in_nI (n := 0) (by decide) (by decide)) dX4_add_28 (fun H locs hP hD hS => ?_)
  have hP : va_P (dC, dI) vwCl [(h0, .inr (11, [.ref h1, .int 0])), (h1, .inl (cc0, 4960, .inl (upd (f0) 0 0)))] H := hP
  have hD : va_D A [(h0, .inr (11, [.ref h1, .int 0])), (h1, .inl (cc0, 4960, .inl (upd (f0) 0 0)))] := hD
  refine lv_aload_n hx hb dX4_add_29 rfl (lv_at hl 0 rfl) ?_
  refine lv_dup hx hb dX4_add_30 rfl ?_
  refine va_get (D := (dC, dI)) (ci := 11) (v := .int 0) (C := RX4) (T := TX4) (N := 2) hx hb hts (by decide +kernel) hown hK hP 0 rfl rfl 1 (by decide) (hts (.fieldLink RX4 7 "Nestprint$Row" "size" "I") (by decide +kernel)) (fun _ h9 => h9) rfl dX4_add_31 ?_
  refine lv_iconst (v := 1) hx hb dX4_add_34 (by decide) ?_
  refine lv_iadd hx hb dX4_add_35 ?_
  refine lv_topi (fun y3 ey3 => ?_)
  obtain rfl : y3 = 1 := ey3.trans (by decide)
  refine va_put (D := (dC, dI)) (ci := 11) (v := .int 1) (ty := .int) (C := RX4) (T := TX4) (N := 2) hx hb hts (by decide +kernel) tyX4 tyX4_ok nmX4 hown hK hP hD hS 0 rfl rfl 1 (by decide) (hts (.fieldLink RX4 7 "Nestprint$Row" "size" "I") (by decide +kernel)) (fun _ h9 => h9) rfl (by decide +kernel) rfl rfl (Nat.le_of_ble_eq_true rfl) dX4_add_36 (fun H locs hP hD hS => ?_)
  have hP : va_P (dC, dI) vwCl [(h0, .inr (11, [.ref h1, .int 1])), (h1, .inl (cc0, 4960, .inl (upd (f0) 0 0)))] H := hP
  have hD : va_D A [(h0, .inr (11, [.ref h1, .int 1])), (h1, .inl (cc0, 4960, .inl (upd (f0) 0 0)))] := hD
  have hP9 := hP.sub (ws' := [(h0, .inr (11, [.ref h1, .int 1])), (h1, .inl (cc0, 4960, .inl (upd (f0) 0 0)))]) [0, 1] rfl
  have hD9 := hD.sub (ws' := [(h0, .inr (11, [.ref h1, .int 1])), (h1, .inl (cc0, 4960, .inl (upd (f0) 0 0)))]) [0, 1] (by decide) rfl
  have hK9 := hK.sub (tys' := [(cc0, .int)]) [0] rfl
  refine W.widen (k := 0) (n := 0) (Nat.le_of_ble_eq_true rfl) (Nat.le_of_ble_eq_true rfl) ?_
  exact W.vret hx hb hr (fun t ht hW => ⟨⟨(), rfl, trivial, by rw [ht]; exact hP9, va_K.moved hW.alike hK9, hD9⟩, hS.F ht⟩) hS.2.2 dX4_add_39
set_option maxHeartbeats 4000000 in
set_option maxRecDepth 100000 in
theorem kX4_add_3 (l : Launch) (dC : Nat → ClassId) (dI : Nat → Nat → Nat) (g : Nat → Nat) (sz : Nat) (h0 : Nat) (h1 : Nat) (cc0 : ClassId) (f0 : Nat → Int32) : Met l yX4_add wsX4_add ({ frames := 0, cells := 0, slots := 0, locals := 0 }) (va_Pc [.ref h0, .int 1] (fun U => U.heap.size = sz ∧ va_P (dC, dI) vwCl [(h0, .inr (11, [.ref h1, .int 0])), (h1, .inl (cc0, 4960, .inl f0))] U.heap ∧ va_K (dC, dI) vwCl [(cc0, .int)] U ∧ va_D (fun _ => True) [(h0, .inr (11, [.ref h1, .int 0])), (h1, .inl (cc0, 4960, .inl f0))] ∧ ns_F g (va_A [(h0, .inr (11, [.ref h1, .int 0])), (h1, .inl (cc0, 4960, .inl f0))] sz) U U.heap)) (va_Qv (fun _ : Unit => True) (fun _ t => va_P (dC, dI) vwCl [(h0, .inr (11, [.ref h1, .int 1])), (h1, .inl (cc0, 4960, .inl (upd (f0) 0 1)))] t.heap ∧ va_K (dC, dI) vwCl [(cc0, .int)] t ∧ va_D (va_A [(h0, .inr (11, [.ref h1, .int 0])), (h1, .inl (cc0, 4960, .inl f0))] sz) [(h0, .inr (11, [.ref h1, .int 1])), (h1, .inl (cc0, 4960, .inl (upd (f0) 0 1)))]) (va_A [(h0, .inr (11, [.ref h1, .int 0])), (h1, .inl (cc0, 4960, .inl f0))] sz)) 0 0 (va_A [(h0, .inr (11, [.ref h1, .int 0])), (h1, .inl (cc0, 4960, .inl f0))] sz) := by
  refine Met.ofW (cc := cX4_add) (maxL := 2) (ret := none) (by decide) rfl ?_
  intro p e s m args below meth c s₁ B hml hv
  obtain ⟨rfl, hsz, hP, hK, hD0, hF⟩ := hv
  have hx := B.exec
  have hb := B.bytes
  have hr := B.returns
  have hts := atoms_spec (ws := wsX4_add) B.pre
  have hown : s.vm.findClass RX4 = some m.cls := findClass_of_methodNamed B.named
  have hlocks := B.notSynchronized
  subst hsz
  have hD := hD0.self (sz := s.heap.size)
  generalize hAe : va_A [(h0, .inr (11, [.ref h1, .int 0])), (h1, .inl (cc0, 4960, .inl f0))] s.heap.size = A at hD hF ⊢
  have hA : ∀ q : Nat, s.heap.size ≤ q → A q := fun q h => by rw [← hAe]; exact Or.inr h
  have hS : va_S A s.heap s.heap [] := va_S.rf
  have hP : va_P (dC, dI) vwCl [(h0, .inr (11, [.ref h1, .int 0])), (h1, .inl (cc0, 4960, .inl f0))] s.heap := hP
  have hl := lv_entry ([.ref h0, .int 1]) (n := 2) (Nat.le_of_ble_eq_true rfl)
  rw [lg_entry_eq]
  generalize (lg_sl ([.ref h0, .int 1]) ++ List.replicate (2 - (lg_sl ([.ref h0, .int 1])).length) Slot.unset).toArray = ls at hl ⊢
  have hl : lv_has ls 2 [(0, .ref h0), (1, .int 1)] := hl
  refine lv_aload_n hx hb dX4_add_0 rfl (lv_at hl 0 rfl) ?_
  refine va_get (D := (dC, dI)) (ci := 11) (v := .int 0) (C := RX4) (T := TX4) (N := 2) hx hb hts (by decide +kernel) hown hK hP 0 rfl rfl 1 (by decide) (hts (.fieldLink RX4 7 "Nestprint$Row" "size" "I") (by decide +kernel)) (fun _ h9 => h9) rfl dX4_add_1 ?_
  refine lv_if_lt (tgt := 39) hx hb dX4_add_4 (by decide) (fun c1 => absurd c1 (by decide)) (fun c1 => ?_)
  refine lv_aload_n hx hb dX4_add_7 rfl (lv_at hl 0 rfl) ?_
  refine va_get (D := (dC, dI)) (ci := 11) (v := .int 0) (C := RX4) (T := TX4) (N := 2) hx hb hts (by decide +kernel) hown hK hP 0 rfl rfl 1 (by decide) (hts (.fieldLink RX4 7 "Nestprint$Row" "size" "I") (by decide +kernel)) (fun _ h9 => h9) rfl dX4_add_8 ?_
  refine lv_aload_n hx hb dX4_add_11 rfl (lv_at hl 0 rfl) ?_
  refine va_get (D := (dC, dI)) (ci := 11) (v := .ref h1) (C := RX4) (T := TX4) (N := 2) hx hb hts (by decide +kernel) hown hK hP 0 rfl rfl 0 (by decide) (hts (.fieldLink RX4 13 "Nestprint$Row" "cells" "[I") (by decide +kernel)) (fun _ h9 => h9) rfl dX4_add_12 ?_
  refine va_alen (v := 4960) hx hb hK hP 1 0 rfl rfl (by decide) dX4_add_15 ?_
  refine lv_icmp_ge (tgt := 39) hx hb dX4_add_16 (by decide) (fun c2 => absurd c2 (by decide)) (fun c2 => ?_)
  refine lv_aload_n hx hb dX4_add_19 rfl (lv_at hl 0 rfl) ?_
  refine va_get (D := (dC, dI)) (ci := 11) (v := .ref h1) (C := RX4) (T := TX4) (N := 2) hx hb hts (by decide +kernel) hown hK hP 0 rfl rfl 0 (by decide) (hts (.fieldLink RX4 13 "Nestprint$Row" "cells" "[I") (by decide +kernel)) (fun _ h9 => h9) rfl dX4_add_20 ?_
  refine lv_aload_n hx hb dX4_add_23 rfl (lv_at hl 0 rfl) ?_
  refine va_get (D := (dC, dI)) (ci := 11) (v := .int 0) (C := RX4) (T := TX4) (N := 2) hx hb hts (by decide +kernel) hown hK hP 0 rfl rfl 1 (by decide) (hts (.fieldLink RX4 7 "Nestprint$Row" "size" "I") (by decide +kernel)) (fun _ h9 => h9) rfl dX4_add_24 ?_
  refine lv_iload_n hx hb dX4_add_27 rfl (lv_at hl 1 rfl) ?_
  refine va_iast hx hb hK hP hD hS 1 0 rfl rfl (vp_in_nI (n := 0) (by decide) (by decide)) dX4_add_28 (fun H locs hP hD hS => ?_)
  have hP : va_P (dC, dI) vwCl [(h0, .inr (11, [.ref h1, .int 0])), (h1, .inl (cc0, 4960, .inl (upd (f0) 0 1)))] H := hP
  have hD : va_D A [(h0, .inr (11, [.ref h1, .int 0])), (h1, .inl (cc0, 4960, .inl (upd (f0) 0 1)))] := hD
  refine lv_aload_n hx hb dX4_add_29 rfl (lv_at hl 0 rfl) ?_
  refine lv_dup hx hb dX4_add_30 rfl ?_
  refine va_get (D := (dC, dI)) (ci := 11) (v := .int 0) (C := RX4) (T := TX4) (N := 2) hx hb hts (by decide +kernel) hown hK hP 0 rfl rfl 1 (by decide) (hts (.fieldLink RX4 7 "Nestprint$Row" "size" "I") (by decide +kernel)) (fun _ h9 => h9) rfl dX4_add_31 ?_
  refine lv_iconst (v := 1) hx hb dX4_add_34 (by decide) ?_
  refine lv_iadd hx hb dX4_add_35 ?_
  refine lv_topi (fun y3 ey3 => ?_)
  obtain rfl : y3 = 1 := ey3.trans (by decide)
  refine va_put (D := (dC, dI)) (ci := 11) (v := .int 1) (ty := .int) (C := RX4) (T := TX4) (N := 2) hx hb hts (by decide +kernel) tyX4 tyX4_ok nmX4 hown hK hP hD hS 0 rfl rfl 1 (by decide) (hts (.fieldLink RX4 7 "Nestprint$Row" "size" "I") (by decide +kernel)) (fun _ h9 => h9) rfl (by decide +kernel) rfl rfl (Nat.le_of_ble_eq_true rfl) dX4_add_36 (fun H locs hP hD hS => ?_)
  have hP : va_P (dC, dI) vwCl [(h0, .inr (11, [.ref h1, .int 1])), (h1, .inl (cc0, 4960, .inl (upd (f0) 0 1)))] H := hP
  have hD : va_D A [(h0, .inr (11, [.ref h1, .int 1])), (h1, .inl (cc0, 4960, .inl (upd (f0) 0 1)))] := hD
  have hP9 := hP.sub (ws' := [(h0, .inr (11, [.ref h1, .int 1])), (h1, .inl (cc0, 4960, .inl (upd (f0) 0 1)))]) [0, 1] rfl
  have hD9 := hD.sub (ws' := [(h0, .inr (11, [.ref h1, .int 1])), (h1, .inl (cc0, 4960, .inl (upd (f0) 0 1)))]) [0, 1] (by decide) rfl
  have hK9 := hK.sub (tys' := [(cc0, .int)]) [0] rfl
  refine W.widen (k := 0) (n := 0) (Nat.le_of_ble_eq_true rfl) (Nat.le_of_ble_eq_true rfl) ?_
  exact W.vret hx hb hr (fun t ht hW => ⟨⟨(), rfl, trivial, by rw [ht]; exact hP9, va_K.moved hW.alike hK9, hD9⟩, hS.F ht⟩) hS.2.2 dX4_add_39
set_option maxHeartbeats 4000000 in
set_option maxRecDepth 100000 in
theorem kX3_addPlace (l : Launch) (dC : Nat → ClassId) (dI : Nat → Nat → Nat) (g : Nat → Nat) (sz : Nat) (h0 : Nat) (h1 : Nat) (h2 : Nat) (h3 : Nat) (h4 : Nat) (h5 : Nat) (h6 : Nat) (h7 : Nat) (h8 : Nat) (h9 : Nat) (h10 : Nat) (h11 : Nat) (h12 : Nat) (v0 : Value) (v1 : Value) (v2 : Value) (cc0 : ClassId) (f0 : Nat → Int32) (cc1 : ClassId) (f1 : Nat → Int32) (cc2 : ClassId) (f2 : Nat → Int32) (cc3 : ClassId) (f3 : Nat → Int32) (cc4 : ClassId) (f4 : Nat → Int32) (cc5 : ClassId) (f5 : Nat → Int32) : Met l yX3_addPlace wsX3_addPlace ({ frames := 1, cells := 0, slots := 0, locals := 21 }) (va_Pc [.ref h0, .int 0, .int 0, .int 1, .int 0, .int 1, .int 1] (fun U => U.heap.size = sz ∧ va_P (dC, dI) vwCl [(h0, .inr (10, [v0, .ref h1, .ref h3, .ref h5, .ref h7, .ref h9, .ref h11, v1, v2])), (h1, .inr (11, [.ref h2, .int 0])), (h2, .inl (cc0, 4960, .inl f0)), (h3, .inr (11, [.ref h4, .int 0])), (h4, .inl (cc1, 4960, .inl f1)), (h5, .inr (11, [.ref h6, .int 0])), (h6, .inl (cc2, 4960, .inl f2)), (h7, .inr (11, [.ref h8, .int 0])), (h8, .inl (cc3, 4960, .inl f3)), (h9, .inr (11, [.ref h10, .int 0])), (h10, .inl (cc4, 4960, .inl f4)), (h11, .inr (11, [.ref h12, .int 0])), (h12, .inl (cc5, 4960, .inl f5))] U.heap ∧ va_K (dC, dI) vwCl [(cc0, .int), (cc1, .int), (cc2, .int), (cc3, .int), (cc4, .int), (cc5, .int)] U ∧ va_D (fun _ => True) [(h0, .inr (10, [v0, .ref h1, .ref h3, .ref h5, .ref h7, .ref h9, .ref h11, v1, v2])), (h1, .inr (11, [.ref h2, .int 0])), (h2, .inl (cc0, 4960, .inl f0)), (h3, .inr (11, [.ref h4, .int 0])), (h4, .inl (cc1, 4960, .inl f1)), (h5, .inr (11, [.ref h6, .int 0])), (h6, .inl (cc2, 4960, .inl f2)), (h7, .inr (11, [.ref h8, .int 0])), (h8, .inl (cc3, 4960, .inl f3)), (h9, .inr (11, [.ref h10, .int 0])), (h10, .inl (cc4, 4960, .inl f4)), (h11, .inr (11, [.ref h12, .int 0])), (h12, .inl (cc5, 4960, .inl f5))] ∧ ns_F g (va_A [(h0, .inr (10, [v0, .ref h1, .ref h3, .ref h5, .ref h7, .ref h9, .ref h11, v1, v2])), (h1, .inr (11, [.ref h2, .int 0])), (h2, .inl (cc0, 4960, .inl f0)), (h3, .inr (11, [.ref h4, .int 0])), (h4, .inl (cc1, 4960, .inl f1)), (h5, .inr (11, [.ref h6, .int 0])), (h6, .inl (cc2, 4960, .inl f2)), (h7, .inr (11, [.ref h8, .int 0])), (h8, .inl (cc3, 4960, .inl f3)), (h9, .inr (11, [.ref h10, .int 0])), (h10, .inl (cc4, 4960, .inl f4)), (h11, .inr (11, [.ref h12, .int 0])), (h12, .inl (cc5, 4960, .inl f5))] sz) U U.heap)) (va_Qi (fun (r : Int32) (_ : Unit) => r = 0) (fun _ t => va_P (dC, dI) vwCl [(h0, .inr (10, [v0, .ref h1, .ref h3, .ref h5, .ref h7, .ref h9, .ref h11, v1, v2])), (h2, .inl (cc0, 4960, .inl (upd (f0) 0 0))), (h3, .inr (11, [.ref h4, .int 1])), (h4, .inl (cc1, 4960, .inl (upd (f1) 0 0))), (h5, .inr (11, [.ref h6, .int 1])), (h6, .inl (cc2, 4960, .inl (upd (f2) 0 1))), (h7, .inr (11, [.ref h8, .int 1])), (h8, .inl (cc3, 4960, .inl (upd (f3) 0 0))), (h9, .inr (11, [.ref h10, .int 1])), (h10, .inl (cc4, 4960, .inl (upd (f4) 0 1))), (h11, .inr (11, [.ref h12, .int 1])), (h12, .inl (cc5, 4960, .inl (upd (f5) 0 1))), (h1, .inr (11, [.ref h2, .int 1]))] t.heap ∧ va_K (dC, dI) vwCl [(cc0, .int), (cc1, .int), (cc2, .int), (cc3, .int), (cc4, .int), (cc5, .int)] t ∧ va_D (va_A [(h0, .inr (10, [v0, .ref h1, .ref h3, .ref h5, .ref h7, .ref h9, .ref h11, v1, v2])), (h1, .inr (11, [.ref h2, .int 0])), (h2, .inl (cc0, 4960, .inl f0)), (h3, .inr (11, [.ref h4, .int 0])), (h4, .inl (cc1, 4960, .inl f1)), (h5, .inr (11, [.ref h6, .int 0])), (h6, .inl (cc2, 4960, .inl f2)), (h7, .inr (11, [.ref h8, .int 0])), (h8, .inl (cc3, 4960, .inl f3)), (h9, .inr (11, [.ref h10, .int 0])), (h10, .inl (cc4, 4960, .inl f4)), (h11, .inr (11, [.ref h12, .int 0])), (h12, .inl (cc5, 4960, .inl f5))] sz) [(h0, .inr (10, [v0, .ref h1, .ref h3, .ref h5, .ref h7, .ref h9, .ref h11, v1, v2])), (h2, .inl (cc0, 4960, .inl (upd (f0) 0 0))), (h3, .inr (11, [.ref h4, .int 1])), (h4, .inl (cc1, 4960, .inl (upd (f1) 0 0))), (h5, .inr (11, [.ref h6, .int 1])), (h6, .inl (cc2, 4960, .inl (upd (f2) 0 1))), (h7, .inr (11, [.ref h8, .int 1])), (h8, .inl (cc3, 4960, .inl (upd (f3) 0 0))), (h9, .inr (11, [.ref h10, .int 1])), (h10, .inl (cc4, 4960, .inl (upd (f4) 0 1))), (h11, .inr (11, [.ref h12, .int 1])), (h12, .inl (cc5, 4960, .inl (upd (f5) 0 1))), (h1, .inr (11, [.ref h2, .int 1]))]) (va_A [(h0, .inr (10, [v0, .ref h1, .ref h3, .ref h5, .ref h7, .ref h9, .ref h11, v1, v2])), (h1, .inr (11, [.ref h2, .int 0])), (h2, .inl (cc0, 4960, .inl f0)), (h3, .inr (11, [.ref h4, .int 0])), (h4, .inl (cc1, 4960, .inl f1)), (h5, .inr (11, [.ref h6, .int 0])), (h6, .inl (cc2, 4960, .inl f2)), (h7, .inr (11, [.ref h8, .int 0])), (h8, .inl (cc3, 4960, .inl f3)), (h9, .inr (11, [.ref h10, .int 0])), (h10, .inl (cc4, 4960, .inl f4)), (h11, .inr (11, [.ref h12, .int 0])), (h12, .inl (cc5, 4960, .inl f5))] sz)) 0 0 (va_A [(h0, .inr (10, [v0, .ref h1, .ref h3, .ref h5, .ref h7, .ref h9, .ref h11, v1, v2])), (h1, .inr (11, [.ref h2, .int 0])), (h2, .inl (cc0, 4960, .inl f0)), (h3, .inr (11, [.ref h4, .int 0])), (h4, .inl (cc1, 4960, .inl f1)), (h5, .inr (11, [.ref h6, .int 0])), (h6, .inl (cc2, 4960, .inl f2)), (h7, .inr (11, [.ref h8, .int 0])), (h8, .inl (cc3, 4960, .inl f3)), (h9, .inr (11, [.ref h10, .int 0])), (h10, .inl (cc4, 4960, .inl f4)), (h11, .inr (11, [.ref h12, .int 0])), (h12, .inl (cc5, 4960, .inl f5))] sz) := by
  refine Met.ofW (cc := cX3_addPlace) (maxL := 7) (ret := (some .int)) (by decide) rfl ?_
  intro p e s m args below meth c s₁ B hml hv
  obtain ⟨rfl, hsz, hP, hK, hD0, hF⟩ := hv
  have hx := B.exec
  have hb := B.bytes
  have hr := B.returns
  have hts := atoms_spec (ws := wsX3_addPlace) B.pre
  have hown : s.vm.findClass RX3 = some m.cls := findClass_of_methodNamed B.named
  have hlocks := B.notSynchronized
  subst hsz
  have hD := hD0.self (sz := s.heap.size)
  generalize hAe : va_A [(h0, .inr (10, [v0, .ref h1, .ref h3, .ref h5, .ref h7, .ref h9, .ref h11, v1, v2])), (h1, .inr (11, [.ref h2, .int 0])), (h2, .inl (cc0, 4960, .inl f0)), (h3, .inr (11, [.ref h4, .int 0])), (h4, .inl (cc1, 4960, .inl f1)), (h5, .inr (11, [.ref h6, .int 0])), (h6, .inl (cc2, 4960, .inl f2)), (h7, .inr (11, [.ref h8, .int 0])), (h8, .inl (cc3, 4960, .inl f3)), (h9, .inr (11, [.ref h10, .int 0])), (h10, .inl (cc4, 4960, .inl f4)), (h11, .inr (11, [.ref h12, .int 0])), (h12, .inl (cc5, 4960, .inl f5))] s.heap.size = A at hD hF ⊢
  have hA : ∀ q : Nat, s.heap.size ≤ q → A q := fun q h => by rw [← hAe]; exact Or.inr h
  have hS : va_S A s.heap s.heap [] := va_S.rf
  have hP : va_P (dC, dI) vwCl [(h0, .inr (10, [v0, .ref h1, .ref h3, .ref h5, .ref h7, .ref h9, .ref h11, v1, v2])), (h1, .inr (11, [.ref h2, .int 0])), (h2, .inl (cc0, 4960, .inl f0)), (h3, .inr (11, [.ref h4, .int 0])), (h4, .inl (cc1, 4960, .inl f1)), (h5, .inr (11, [.ref h6, .int 0])), (h6, .inl (cc2, 4960, .inl f2)), (h7, .inr (11, [.ref h8, .int 0])), (h8, .inl (cc3, 4960, .inl f3)), (h9, .inr (11, [.ref h10, .int 0])), (h10, .inl (cc4, 4960, .inl f4)), (h11, .inr (11, [.ref h12, .int 0])), (h12, .inl (cc5, 4960, .inl f5))] s.heap := hP
  have hl := lv_entry ([.ref h0, .int 0, .int 0, .int 1, .int 0, .int 1, .int 1]) (n := 7) (Nat.le_of_ble_eq_true rfl)
  rw [lg_entry_eq]
  generalize (lg_sl ([.ref h0, .int 0, .int 0, .int 1, .int 0, .int 1, .int 1]) ++ List.replicate (7 - (lg_sl ([.ref h0, .int 0, .int 0, .int 1, .int 0, .int 1, .int 1])).length) Slot.unset).toArray = ls at hl ⊢
  have hl : lv_has ls 7 [(0, .ref h0), (1, .int 0), (2, .int 0), (3, .int 1), (4, .int 0), (5, .int 1), (6, .int 1)] := hl
  refine lv_aload_n hx hb dX3_addPlace_0 rfl (lv_at hl 0 rfl) ?_
  refine va_get (D := (dC, dI)) (ci := 10) (v := .ref h1) (C := RX3) (T := TX3) (N := 9) hx hb hts (by decide +kernel) hown hK hP 0 rfl rfl 1 (by decide) (hts (.fieldLink RX3 20 "Nestprint$Nodes" "kinds" "LNestprint$Row;") (by decide +kernel)) (fun _ h9 => h9) rfl dX3_addPlace_1 ?_
  refine lv_iload_n hx hb dX3_addPlace_4 rfl (lv_at hl 1 rfl) ?_
  have hPc := hP.sub (ws' := [(h1, .inr (11, [.ref h2, .int 0])), (h2, .inl (cc0, 4960, .inl f0))]) [1, 2] rfl
  have hDc := hD.sub (ws' := [(h1, .inr (11, [.ref h2, .int 0])), (h2, .inl (cc0, 4960, .inl f0))]) [1, 2] (by decide) rfl
  have hKc := hK.sub (tys' := [(cc0, .int)]) [0] rfl
  have hFc := va_free (wc := [(h1, .inr (11, [.ref h2, .int 0])), (h2, .inl (cc0, 4960, .inl f0))]) hD hS hA [1, 2] rfl
  refine va_callv (va_runV (As := [.int 0]) (rest := []) ⟨hx, hb, hml, hown, hts⟩ (kX4_add_2 l dC dI g s.heap.size h1 h2 cc0 f0 ) (cwV 1 hts gX3_addPlace_X4_add rfl rfl rfl (by decide +kernel) ⟨Nat.le_of_ble_eq_true rfl, Nat.le_of_ble_eq_true rfl⟩) ⟨fun a U gg mk q => by obtain ⟨q0, q1, qP, qK, qD, qF⟩ := q; exact ⟨q0, q1, qP, va_K.moved (u := U) (U := U.calling gg mk a) (Vm.Alike.refl U.vm) qK, qD, ns_same qF⟩, va_recv hK hP (ci := 11) (q0 := 1) rfl rfl, fun U hU hW => ⟨rfl, by rw [hU], by rw [hU]; exact hPc, va_K.moved hW.alike hKc, hDc.weaken (fun _ _ _ _ => trivial), ns_call hF hS hFc hU hW⟩⟩ rfl rfl hl.1 rfl (lv_room (Nat.le_of_ble_eq_true rfl)) dX3_addPlace_5 ⟨Nat.le_of_ble_eq_true rfl, Nat.le_of_ble_eq_true rfl⟩) hS (fun q _ h => hFc q h) hFc (fun u t H1 locs ht hvm hw hB hz1 hk1 hS => ?_)
  obtain ⟨hP1, hK1, hD1⟩ := hB
  rw [ht] at hP1
  have hK1 := va_K.moved hvm.symm hK1
  obtain ⟨hP, hD⟩ := va_join (wr := [(h0, .inr (10, [v0, .ref h1, .ref h3, .ref h5, .ref h7, .ref h9, .ref h11, v1, v2])), (h3, .inr (11, [.ref h4, .int 0])), (h4, .inl (cc1, 4960, .inl f1)), (h5, .inr (11, [.ref h6, .int 0])), (h6, .inl (cc2, 4960, .inl f2)), (h7, .inr (11, [.ref h8, .int 0])), (h8, .inl (cc3, 4960, .inl f3)), (h9, .inr (11, [.ref h10, .int 0])), (h10, .inl (cc4, 4960, .inl f4)), (h11, .inr (11, [.ref h12, .int 0])), (h12, .inl (cc5, 4960, .inl f5))]) (w1 := [(h1, .inr (11, [.ref h2, .int 1])), (h2, .inl (cc0, 4960, .inl (upd (f0) 0 0)))]) hP hD [1, 2] [0, 3, 4, 5, 6, 7, 8, 9, 10, 11, 12] rfl rfl (by decide) (by decide) hk1 hFc hP1 hD1
  have hK := (hK.sub (tys' := [(cc1, .int), (cc2, .int), (cc3, .int), (cc4, .int), (cc5, .int)]) [1, 2, 3, 4, 5] rfl).app hK1
  generalize H1 = H at hP hS ⊢
  have hP : va_P (dC, dI) vwCl [(h0, .inr (10, [v0, .ref h1, .ref h3, .ref h5, .ref h7, .ref h9, .ref h11, v1, v2])), (h3, .inr (11, [.ref h4, .int 0])), (h4, .inl (cc1, 4960, .inl f1)), (h5, .inr (11, [.ref h6, .int 0])), (h6, .inl (cc2, 4960, .inl f2)), (h7, .inr (11, [.ref h8, .int 0])), (h8, .inl (cc3, 4960, .inl f3)), (h9, .inr (11, [.ref h10, .int 0])), (h10, .inl (cc4, 4960, .inl f4)), (h11, .inr (11, [.ref h12, .int 0])), (h12, .inl (cc5, 4960, .inl f5)), (h1, .inr (11, [.ref h2, .int 1])), (h2, .inl (cc0, 4960, .inl (upd (f0) 0 0)))] H := hP
  have hD : va_D A [(h0, .inr (10, [v0, .ref h1, .ref h3, .ref h5, .ref h7, .ref h9, .ref h11, v1, v2])), (h3, .inr (11, [.ref h4, .int 0])), (h4, .inl (cc1, 4960, .inl f1)), (h5, .inr (11, [.ref h6, .int 0])), (h6, .inl (cc2, 4960, .inl f2)), (h7, .inr (11, [.ref h8, .int 0])), (h8, .inl (cc3, 4960, .inl f3)), (h9, .inr (11, [.ref h10, .int 0])), (h10, .inl (cc4, 4960, .inl f4)), (h11, .inr (11, [.ref h12, .int 0])), (h12, .inl (cc5, 4960, .inl f5)), (h1, .inr (11, [.ref h2, .int 1])), (h2, .inl (cc0, 4960, .inl (upd (f0) 0 0)))] := hD
  have hK : va_K (dC, dI) vwCl [(cc1, .int), (cc2, .int), (cc3, .int), (cc4, .int), (cc5, .int), (cc0, .int)] s := hK
  refine W.widen (k := 0) (n := 0) (Nat.le_of_ble_eq_true rfl) (Nat.le_of_ble_eq_true rfl) ?_
  refine lv_aload_n hx hb dX3_addPlace_8 rfl (lv_at hl 0 rfl) ?_
  refine va_get (D := (dC, dI)) (ci := 10) (v := .ref h3) (C := RX3) (T := TX3) (N := 9) hx hb hts (by decide +kernel) hown hK hP 0 rfl rfl 2 (by decide) (hts (.fieldLink RX3 23 "Nestprint$Nodes" "starts" "LNestprint$Row;") (by decide +kernel)) (fun _ h9 => h9) rfl dX3_addPlace_9 ?_
  refine lv_iload_n hx hb dX3_addPlace_12 rfl (lv_at hl 2 rfl) ?_
  have hPc := hP.sub (ws' := [(h3, .inr (11, [.ref h4, .int 0])), (h4, .inl (cc1, 4960, .inl f1))]) [1, 2] rfl
  have hDc := hD.sub (ws' := [(h3, .inr (11, [.ref h4, .int 0])), (h4, .inl (cc1, 4960, .inl f1))]) [1, 2] (by decide) rfl
  have hKc := hK.sub (tys' := [(cc1, .int)]) [0] rfl
  have hFc := va_free (wc := [(h3, .inr (11, [.ref h4, .int 0])), (h4, .inl (cc1, 4960, .inl f1))]) hD hS hA [1, 2] rfl
  refine va_callv (va_runV (As := [.int 0]) (rest := []) ⟨hx, hb, hml, hown, hts⟩ (kX4_add_2 l dC dI g H.size h3 h4 cc1 f1 ) (cwV 1 hts gX3_addPlace_X4_add rfl rfl rfl (by decide +kernel) ⟨Nat.le_of_ble_eq_true rfl, Nat.le_of_ble_eq_true rfl⟩) ⟨fun a U gg mk q => by obtain ⟨q0, q1, qP, qK, qD, qF⟩ := q; exact ⟨q0, q1, qP, va_K.moved (u := U) (U := U.calling gg mk a) (Vm.Alike.refl U.vm) qK, qD, ns_same qF⟩, va_recv hK hP (ci := 11) (q0 := 1) rfl rfl, fun U hU hW => ⟨rfl, by rw [hU], by rw [hU]; exact hPc, va_K.moved hW.alike hKc, hDc.weaken (fun _ _ _ _ => trivial), ns_call hF hS hFc hU hW⟩⟩ rfl rfl hl.1 rfl (lv_room (Nat.le_of_ble_eq_true rfl)) dX3_addPlace_13 ⟨Nat.le_of_ble_eq_true rfl, Nat.le_of_ble_eq_true rfl⟩) hS (fun q _ h => hFc q h) hFc (fun u t H1 locs ht hvm hw hB hz1 hk1 hS => ?_)
  obtain ⟨hP1, hK1, hD1⟩ := hB
  rw [ht] at hP1
  have hK1 := va_K.moved hvm.symm hK1
  obtain ⟨hP, hD⟩ := va_join (wr := [(h0, .inr (10, [v0, .ref h1, .ref h3, .ref h5, .ref h7, .ref h9, .ref h11, v1, v2])), (h5, .inr (11, [.ref h6, .int 0])), (h6, .inl (cc2, 4960, .inl f2)), (h7, .inr (11, [.ref h8, .int 0])), (h8, .inl (cc3, 4960, .inl f3)), (h9, .inr (11, [.ref h10, .int 0])), (h10, .inl (cc4, 4960, .inl f4)), (h11, .inr (11, [.ref h12, .int 0])), (h12, .inl (cc5, 4960, .inl f5)), (h1, .inr (11, [.ref h2, .int 1])), (h2, .inl (cc0, 4960, .inl (upd (f0) 0 0)))]) (w1 := [(h3, .inr (11, [.ref h4, .int 1])), (h4, .inl (cc1, 4960, .inl (upd (f1) 0 0)))]) hP hD [1, 2] [0, 3, 4, 5, 6, 7, 8, 9, 10, 11, 12] rfl rfl (by decide) (by decide) hk1 hFc hP1 hD1
  have hK := (hK.sub (tys' := [(cc2, .int), (cc3, .int), (cc4, .int), (cc5, .int), (cc0, .int)]) [1, 2, 3, 4, 5] rfl).app hK1
  generalize H1 = H at hP hS ⊢
  have hP : va_P (dC, dI) vwCl [(h0, .inr (10, [v0, .ref h1, .ref h3, .ref h5, .ref h7, .ref h9, .ref h11, v1, v2])), (h5, .inr (11, [.ref h6, .int 0])), (h6, .inl (cc2, 4960, .inl f2)), (h7, .inr (11, [.ref h8, .int 0])), (h8, .inl (cc3, 4960, .inl f3)), (h9, .inr (11, [.ref h10, .int 0])), (h10, .inl (cc4, 4960, .inl f4)), (h11, .inr (11, [.ref h12, .int 0])), (h12, .inl (cc5, 4960, .inl f5)), (h1, .inr (11, [.ref h2, .int 1])), (h2, .inl (cc0, 4960, .inl (upd (f0) 0 0))), (h3, .inr (11, [.ref h4, .int 1])), (h4, .inl (cc1, 4960, .inl (upd (f1) 0 0)))] H := hP
  have hD : va_D A [(h0, .inr (10, [v0, .ref h1, .ref h3, .ref h5, .ref h7, .ref h9, .ref h11, v1, v2])), (h5, .inr (11, [.ref h6, .int 0])), (h6, .inl (cc2, 4960, .inl f2)), (h7, .inr (11, [.ref h8, .int 0])), (h8, .inl (cc3, 4960, .inl f3)), (h9, .inr (11, [.ref h10, .int 0])), (h10, .inl (cc4, 4960, .inl f4)), (h11, .inr (11, [.ref h12, .int 0])), (h12, .inl (cc5, 4960, .inl f5)), (h1, .inr (11, [.ref h2, .int 1])), (h2, .inl (cc0, 4960, .inl (upd (f0) 0 0))), (h3, .inr (11, [.ref h4, .int 1])), (h4, .inl (cc1, 4960, .inl (upd (f1) 0 0)))] := hD
  have hK : va_K (dC, dI) vwCl [(cc2, .int), (cc3, .int), (cc4, .int), (cc5, .int), (cc0, .int), (cc1, .int)] s := hK
  refine W.widen (k := 0) (n := 0) (Nat.le_of_ble_eq_true rfl) (Nat.le_of_ble_eq_true rfl) ?_
  refine lv_aload_n hx hb dX3_addPlace_16 rfl (lv_at hl 0 rfl) ?_
  refine va_get (D := (dC, dI)) (ci := 10) (v := .ref h5) (C := RX3) (T := TX3) (N := 9) hx hb hts (by decide +kernel) hown hK hP 0 rfl rfl 3 (by decide) (hts (.fieldLink RX3 26 "Nestprint$Nodes" "counts" "LNestprint$Row;") (by decide +kernel)) (fun _ h9 => h9) rfl dX3_addPlace_17 ?_
  refine lv_iload_n hx hb dX3_addPlace_20 rfl (lv_at hl 3 rfl) ?_
  have hPc := hP.sub (ws' := [(h5, .inr (11, [.ref h6, .int 0])), (h6, .inl (cc2, 4960, .inl f2))]) [1, 2] rfl
  have hDc := hD.sub (ws' := [(h5, .inr (11, [.ref h6, .int 0])), (h6, .inl (cc2, 4960, .inl f2))]) [1, 2] (by decide) rfl
  have hKc := hK.sub (tys' := [(cc2, .int)]) [0] rfl
  have hFc := va_free (wc := [(h5, .inr (11, [.ref h6, .int 0])), (h6, .inl (cc2, 4960, .inl f2))]) hD hS hA [1, 2] rfl
  refine va_callv (va_runV (As := [.int 1]) (rest := []) ⟨hx, hb, hml, hown, hts⟩ (kX4_add_3 l dC dI g H.size h5 h6 cc2 f2 ) (cwV 1 hts gX3_addPlace_X4_add rfl rfl rfl (by decide +kernel) ⟨Nat.le_of_ble_eq_true rfl, Nat.le_of_ble_eq_true rfl⟩) ⟨fun a U gg mk q => by obtain ⟨q0, q1, qP, qK, qD, qF⟩ := q; exact ⟨q0, q1, qP, va_K.moved (u := U) (U := U.calling gg mk a) (Vm.Alike.refl U.vm) qK, qD, ns_same qF⟩, va_recv hK hP (ci := 11) (q0 := 1) rfl rfl, fun U hU hW => ⟨rfl, by rw [hU], by rw [hU]; exact hPc, va_K.moved hW.alike hKc, hDc.weaken (fun _ _ _ _ => trivial), ns_call hF hS hFc hU hW⟩⟩ rfl rfl hl.1 rfl (lv_room (Nat.le_of_ble_eq_true rfl)) dX3_addPlace_21 ⟨Nat.le_of_ble_eq_true rfl, Nat.le_of_ble_eq_true rfl⟩) hS (fun q _ h => hFc q h) hFc (fun u t H1 locs ht hvm hw hB hz1 hk1 hS => ?_)
  obtain ⟨hP1, hK1, hD1⟩ := hB
  rw [ht] at hP1
  have hK1 := va_K.moved hvm.symm hK1
  obtain ⟨hP, hD⟩ := va_join (wr := [(h0, .inr (10, [v0, .ref h1, .ref h3, .ref h5, .ref h7, .ref h9, .ref h11, v1, v2])), (h7, .inr (11, [.ref h8, .int 0])), (h8, .inl (cc3, 4960, .inl f3)), (h9, .inr (11, [.ref h10, .int 0])), (h10, .inl (cc4, 4960, .inl f4)), (h11, .inr (11, [.ref h12, .int 0])), (h12, .inl (cc5, 4960, .inl f5)), (h1, .inr (11, [.ref h2, .int 1])), (h2, .inl (cc0, 4960, .inl (upd (f0) 0 0))), (h3, .inr (11, [.ref h4, .int 1])), (h4, .inl (cc1, 4960, .inl (upd (f1) 0 0)))]) (w1 := [(h5, .inr (11, [.ref h6, .int 1])), (h6, .inl (cc2, 4960, .inl (upd (f2) 0 1)))]) hP hD [1, 2] [0, 3, 4, 5, 6, 7, 8, 9, 10, 11, 12] rfl rfl (by decide) (by decide) hk1 hFc hP1 hD1
  have hK := (hK.sub (tys' := [(cc3, .int), (cc4, .int), (cc5, .int), (cc0, .int), (cc1, .int)]) [1, 2, 3, 4, 5] rfl).app hK1
  generalize H1 = H at hP hS ⊢
  have hP : va_P (dC, dI) vwCl [(h0, .inr (10, [v0, .ref h1, .ref h3, .ref h5, .ref h7, .ref h9, .ref h11, v1, v2])), (h7, .inr (11, [.ref h8, .int 0])), (h8, .inl (cc3, 4960, .inl f3)), (h9, .inr (11, [.ref h10, .int 0])), (h10, .inl (cc4, 4960, .inl f4)), (h11, .inr (11, [.ref h12, .int 0])), (h12, .inl (cc5, 4960, .inl f5)), (h1, .inr (11, [.ref h2, .int 1])), (h2, .inl (cc0, 4960, .inl (upd (f0) 0 0))), (h3, .inr (11, [.ref h4, .int 1])), (h4, .inl (cc1, 4960, .inl (upd (f1) 0 0))), (h5, .inr (11, [.ref h6, .int 1])), (h6, .inl (cc2, 4960, .inl (upd (f2) 0 1)))] H := hP
  have hD : va_D A [(h0, .inr (10, [v0, .ref h1, .ref h3, .ref h5, .ref h7, .ref h9, .ref h11, v1, v2])), (h7, .inr (11, [.ref h8, .int 0])), (h8, .inl (cc3, 4960, .inl f3)), (h9, .inr (11, [.ref h10, .int 0])), (h10, .inl (cc4, 4960, .inl f4)), (h11, .inr (11, [.ref h12, .int 0])), (h12, .inl (cc5, 4960, .inl f5)), (h1, .inr (11, [.ref h2, .int 1])), (h2, .inl (cc0, 4960, .inl (upd (f0) 0 0))), (h3, .inr (11, [.ref h4, .int 1])), (h4, .inl (cc1, 4960, .inl (upd (f1) 0 0))), (h5, .inr (11, [.ref h6, .int 1])), (h6, .inl (cc2, 4960, .inl (upd (f2) 0 1)))] := hD
  have hK : va_K (dC, dI) vwCl [(cc3, .int), (cc4, .int), (cc5, .int), (cc0, .int), (cc1, .int), (cc2, .int)] s := hK
  refine W.widen (k := 0) (n := 0) (Nat.le_of_ble_eq_true rfl) (Nat.le_of_ble_eq_true rfl) ?_
  refine lv_aload_n hx hb dX3_addPlace_24 rfl (lv_at hl 0 rfl) ?_
  refine va_get (D := (dC, dI)) (ci := 10) (v := .ref h7) (C := RX3) (T := TX3) (N := 9) hx hb hts (by decide +kernel) hown hK hP 0 rfl rfl 4 (by decide) (hts (.fieldLink RX3 29 "Nestprint$Nodes" "bys" "LNestprint$Row;") (by decide +kernel)) (fun _ h9 => h9) rfl dX3_addPlace_25 ?_
  refine lv_iload hx hb dX3_addPlace_28 (lv_at hl 4 rfl) ?_
  have hPc := hP.sub (ws' := [(h7, .inr (11, [.ref h8, .int 0])), (h8, .inl (cc3, 4960, .inl f3))]) [1, 2] rfl
  have hDc := hD.sub (ws' := [(h7, .inr (11, [.ref h8, .int 0])), (h8, .inl (cc3, 4960, .inl f3))]) [1, 2] (by decide) rfl
  have hKc := hK.sub (tys' := [(cc3, .int)]) [0] rfl
  have hFc := va_free (wc := [(h7, .inr (11, [.ref h8, .int 0])), (h8, .inl (cc3, 4960, .inl f3))]) hD hS hA [1, 2] rfl
  refine va_callv (va_runV (As := [.int 0]) (rest := []) ⟨hx, hb, hml, hown, hts⟩ (kX4_add_2 l dC dI g H.size h7 h8 cc3 f3 ) (cwV 1 hts gX3_addPlace_X4_add rfl rfl rfl (by decide +kernel) ⟨Nat.le_of_ble_eq_true rfl, Nat.le_of_ble_eq_true rfl⟩) ⟨fun a U gg mk q => by obtain ⟨q0, q1, qP, qK, qD, qF⟩ := q; exact ⟨q0, q1, qP, va_K.moved (u := U) (U := U.calling gg mk a) (Vm.Alike.refl U.vm) qK, qD, ns_same qF⟩, va_recv hK hP (ci := 11) (q0 := 1) rfl rfl, fun U hU hW => ⟨rfl, by rw [hU], by rw [hU]; exact hPc, va_K.moved hW.alike hKc, hDc.weaken (fun _ _ _ _ => trivial), ns_call hF hS hFc hU hW⟩⟩ rfl rfl hl.1 rfl (lv_room (Nat.le_of_ble_eq_true rfl)) dX3_addPlace_30 ⟨Nat.le_of_ble_eq_true rfl, Nat.le_of_ble_eq_true rfl⟩) hS (fun q _ h => hFc q h) hFc (fun u t H1 locs ht hvm hw hB hz1 hk1 hS => ?_)
  obtain ⟨hP1, hK1, hD1⟩ := hB
  rw [ht] at hP1
  have hK1 := va_K.moved hvm.symm hK1
  obtain ⟨hP, hD⟩ := va_join (wr := [(h0, .inr (10, [v0, .ref h1, .ref h3, .ref h5, .ref h7, .ref h9, .ref h11, v1, v2])), (h9, .inr (11, [.ref h10, .int 0])), (h10, .inl (cc4, 4960, .inl f4)), (h11, .inr (11, [.ref h12, .int 0])), (h12, .inl (cc5, 4960, .inl f5)), (h1, .inr (11, [.ref h2, .int 1])), (h2, .inl (cc0, 4960, .inl (upd (f0) 0 0))), (h3, .inr (11, [.ref h4, .int 1])), (h4, .inl (cc1, 4960, .inl (upd (f1) 0 0))), (h5, .inr (11, [.ref h6, .int 1])), (h6, .inl (cc2, 4960, .inl (upd (f2) 0 1)))]) (w1 := [(h7, .inr (11, [.ref h8, .int 1])), (h8, .inl (cc3, 4960, .inl (upd (f3) 0 0)))]) hP hD [1, 2] [0, 3, 4, 5, 6, 7, 8, 9, 10, 11, 12] rfl rfl (by decide) (by decide) hk1 hFc hP1 hD1
  have hK := (hK.sub (tys' := [(cc4, .int), (cc5, .int), (cc0, .int), (cc1, .int), (cc2, .int)]) [1, 2, 3, 4, 5] rfl).app hK1
  generalize H1 = H at hP hS ⊢
  have hP : va_P (dC, dI) vwCl [(h0, .inr (10, [v0, .ref h1, .ref h3, .ref h5, .ref h7, .ref h9, .ref h11, v1, v2])), (h9, .inr (11, [.ref h10, .int 0])), (h10, .inl (cc4, 4960, .inl f4)), (h11, .inr (11, [.ref h12, .int 0])), (h12, .inl (cc5, 4960, .inl f5)), (h1, .inr (11, [.ref h2, .int 1])), (h2, .inl (cc0, 4960, .inl (upd (f0) 0 0))), (h3, .inr (11, [.ref h4, .int 1])), (h4, .inl (cc1, 4960, .inl (upd (f1) 0 0))), (h5, .inr (11, [.ref h6, .int 1])), (h6, .inl (cc2, 4960, .inl (upd (f2) 0 1))), (h7, .inr (11, [.ref h8, .int 1])), (h8, .inl (cc3, 4960, .inl (upd (f3) 0 0)))] H := hP
  have hD : va_D A [(h0, .inr (10, [v0, .ref h1, .ref h3, .ref h5, .ref h7, .ref h9, .ref h11, v1, v2])), (h9, .inr (11, [.ref h10, .int 0])), (h10, .inl (cc4, 4960, .inl f4)), (h11, .inr (11, [.ref h12, .int 0])), (h12, .inl (cc5, 4960, .inl f5)), (h1, .inr (11, [.ref h2, .int 1])), (h2, .inl (cc0, 4960, .inl (upd (f0) 0 0))), (h3, .inr (11, [.ref h4, .int 1])), (h4, .inl (cc1, 4960, .inl (upd (f1) 0 0))), (h5, .inr (11, [.ref h6, .int 1])), (h6, .inl (cc2, 4960, .inl (upd (f2) 0 1))), (h7, .inr (11, [.ref h8, .int 1])), (h8, .inl (cc3, 4960, .inl (upd (f3) 0 0)))] := hD
  have hK : va_K (dC, dI) vwCl [(cc4, .int), (cc5, .int), (cc0, .int), (cc1, .int), (cc2, .int), (cc3, .int)] s := hK
  refine W.widen (k := 0) (n := 0) (Nat.le_of_ble_eq_true rfl) (Nat.le_of_ble_eq_true rfl) ?_
  refine lv_aload_n hx hb dX3_addPlace_33 rfl (lv_at hl 0 rfl) ?_
  refine va_get (D := (dC, dI)) (ci := 10) (v := .ref h9) (C := RX3) (T := TX3) (N := 9) hx hb hts (by decide +kernel) hown hK hP 0 rfl rfl 5 (by decide) (hts (.fieldLink RX3 32 "Nestprint$Nodes" "weights" "LNestprint$Row;") (by decide +kernel)) (fun _ h9 => h9) rfl dX3_addPlace_34 ?_
  refine lv_iload hx hb dX3_addPlace_37 (lv_at hl 5 rfl) ?_
  have hPc := hP.sub (ws' := [(h9, .inr (11, [.ref h10, .int 0])), (h10, .inl (cc4, 4960, .inl f4))]) [1, 2] rfl
  have hDc := hD.sub (ws' := [(h9, .inr (11, [.ref h10, .int 0])), (h10, .inl (cc4, 4960, .inl f4))]) [1, 2] (by decide) rfl
  have hKc := hK.sub (tys' := [(cc4, .int)]) [0] rfl
  have hFc := va_free (wc := [(h9, .inr (11, [.ref h10, .int 0])), (h10, .inl (cc4, 4960, .inl f4))]) hD hS hA [1, 2] rfl
  refine va_callv (va_runV (As := [.int 1]) (rest := []) ⟨hx, hb, hml, hown, hts⟩ (kX4_add_3 l dC dI g H.size h9 h10 cc4 f4 ) (cwV 1 hts gX3_addPlace_X4_add rfl rfl rfl (by decide +kernel) ⟨Nat.le_of_ble_eq_true rfl, Nat.le_of_ble_eq_true rfl⟩) ⟨fun a U gg mk q => by obtain ⟨q0, q1, qP, qK, qD, qF⟩ := q; exact ⟨q0, q1, qP, va_K.moved (u := U) (U := U.calling gg mk a) (Vm.Alike.refl U.vm) qK, qD, ns_same qF⟩, va_recv hK hP (ci := 11) (q0 := 1) rfl rfl, fun U hU hW => ⟨rfl, by rw [hU], by rw [hU]; exact hPc, va_K.moved hW.alike hKc, hDc.weaken (fun _ _ _ _ => trivial), ns_call hF hS hFc hU hW⟩⟩ rfl rfl hl.1 rfl (lv_room (Nat.le_of_ble_eq_true rfl)) dX3_addPlace_39 ⟨Nat.le_of_ble_eq_true rfl, Nat.le_of_ble_eq_true rfl⟩) hS (fun q _ h => hFc q h) hFc (fun u t H1 locs ht hvm hw hB hz1 hk1 hS => ?_)
  obtain ⟨hP1, hK1, hD1⟩ := hB
  rw [ht] at hP1
  have hK1 := va_K.moved hvm.symm hK1
  obtain ⟨hP, hD⟩ := va_join (wr := [(h0, .inr (10, [v0, .ref h1, .ref h3, .ref h5, .ref h7, .ref h9, .ref h11, v1, v2])), (h11, .inr (11, [.ref h12, .int 0])), (h12, .inl (cc5, 4960, .inl f5)), (h1, .inr (11, [.ref h2, .int 1])), (h2, .inl (cc0, 4960, .inl (upd (f0) 0 0))), (h3, .inr (11, [.ref h4, .int 1])), (h4, .inl (cc1, 4960, .inl (upd (f1) 0 0))), (h5, .inr (11, [.ref h6, .int 1])), (h6, .inl (cc2, 4960, .inl (upd (f2) 0 1))), (h7, .inr (11, [.ref h8, .int 1])), (h8, .inl (cc3, 4960, .inl (upd (f3) 0 0)))]) (w1 := [(h9, .inr (11, [.ref h10, .int 1])), (h10, .inl (cc4, 4960, .inl (upd (f4) 0 1)))]) hP hD [1, 2] [0, 3, 4, 5, 6, 7, 8, 9, 10, 11, 12] rfl rfl (by decide) (by decide) hk1 hFc hP1 hD1
  have hK := (hK.sub (tys' := [(cc5, .int), (cc0, .int), (cc1, .int), (cc2, .int), (cc3, .int)]) [1, 2, 3, 4, 5] rfl).app hK1
  generalize H1 = H at hP hS ⊢
  have hP : va_P (dC, dI) vwCl [(h0, .inr (10, [v0, .ref h1, .ref h3, .ref h5, .ref h7, .ref h9, .ref h11, v1, v2])), (h11, .inr (11, [.ref h12, .int 0])), (h12, .inl (cc5, 4960, .inl f5)), (h1, .inr (11, [.ref h2, .int 1])), (h2, .inl (cc0, 4960, .inl (upd (f0) 0 0))), (h3, .inr (11, [.ref h4, .int 1])), (h4, .inl (cc1, 4960, .inl (upd (f1) 0 0))), (h5, .inr (11, [.ref h6, .int 1])), (h6, .inl (cc2, 4960, .inl (upd (f2) 0 1))), (h7, .inr (11, [.ref h8, .int 1])), (h8, .inl (cc3, 4960, .inl (upd (f3) 0 0))), (h9, .inr (11, [.ref h10, .int 1])), (h10, .inl (cc4, 4960, .inl (upd (f4) 0 1)))] H := hP
  have hD : va_D A [(h0, .inr (10, [v0, .ref h1, .ref h3, .ref h5, .ref h7, .ref h9, .ref h11, v1, v2])), (h11, .inr (11, [.ref h12, .int 0])), (h12, .inl (cc5, 4960, .inl f5)), (h1, .inr (11, [.ref h2, .int 1])), (h2, .inl (cc0, 4960, .inl (upd (f0) 0 0))), (h3, .inr (11, [.ref h4, .int 1])), (h4, .inl (cc1, 4960, .inl (upd (f1) 0 0))), (h5, .inr (11, [.ref h6, .int 1])), (h6, .inl (cc2, 4960, .inl (upd (f2) 0 1))), (h7, .inr (11, [.ref h8, .int 1])), (h8, .inl (cc3, 4960, .inl (upd (f3) 0 0))), (h9, .inr (11, [.ref h10, .int 1])), (h10, .inl (cc4, 4960, .inl (upd (f4) 0 1)))] := hD
  have hK : va_K (dC, dI) vwCl [(cc5, .int), (cc0, .int), (cc1, .int), (cc2, .int), (cc3, .int), (cc4, .int)] s := hK
  refine W.widen (k := 0) (n := 0) (Nat.le_of_ble_eq_true rfl) (Nat.le_of_ble_eq_true rfl) ?_
  refine lv_aload_n hx hb dX3_addPlace_42 rfl (lv_at hl 0 rfl) ?_
  refine va_get (D := (dC, dI)) (ci := 10) (v := .ref h11) (C := RX3) (T := TX3) (N := 9) hx hb hts (by decide +kernel) hown hK hP 0 rfl rfl 6 (by decide) (hts (.fieldLink RX3 35 "Nestprint$Nodes" "depths" "LNestprint$Row;") (by decide +kernel)) (fun _ h9 => h9) rfl dX3_addPlace_43 ?_
  refine lv_iload hx hb dX3_addPlace_46 (lv_at hl 6 rfl) ?_
  have hPc := hP.sub (ws' := [(h11, .inr (11, [.ref h12, .int 0])), (h12, .inl (cc5, 4960, .inl f5))]) [1, 2] rfl
  have hDc := hD.sub (ws' := [(h11, .inr (11, [.ref h12, .int 0])), (h12, .inl (cc5, 4960, .inl f5))]) [1, 2] (by decide) rfl
  have hKc := hK.sub (tys' := [(cc5, .int)]) [0] rfl
  have hFc := va_free (wc := [(h11, .inr (11, [.ref h12, .int 0])), (h12, .inl (cc5, 4960, .inl f5))]) hD hS hA [1, 2] rfl
  refine va_callv (va_runV (As := [.int 1]) (rest := []) ⟨hx, hb, hml, hown, hts⟩ (kX4_add_3 l dC dI g H.size h11 h12 cc5 f5 ) (cwV 1 hts gX3_addPlace_X4_add rfl rfl rfl (by decide +kernel) ⟨Nat.le_of_ble_eq_true rfl, Nat.le_of_ble_eq_true rfl⟩) ⟨fun a U gg mk q => by obtain ⟨q0, q1, qP, qK, qD, qF⟩ := q; exact ⟨q0, q1, qP, va_K.moved (u := U) (U := U.calling gg mk a) (Vm.Alike.refl U.vm) qK, qD, ns_same qF⟩, va_recv hK hP (ci := 11) (q0 := 1) rfl rfl, fun U hU hW => ⟨rfl, by rw [hU], by rw [hU]; exact hPc, va_K.moved hW.alike hKc, hDc.weaken (fun _ _ _ _ => trivial), ns_call hF hS hFc hU hW⟩⟩ rfl rfl hl.1 rfl (lv_room (Nat.le_of_ble_eq_true rfl)) dX3_addPlace_48 ⟨Nat.le_of_ble_eq_true rfl, Nat.le_of_ble_eq_true rfl⟩) hS (fun q _ h => hFc q h) hFc (fun u t H1 locs ht hvm hw hB hz1 hk1 hS => ?_)
  obtain ⟨hP1, hK1, hD1⟩ := hB
  rw [ht] at hP1
  have hK1 := va_K.moved hvm.symm hK1
  obtain ⟨hP, hD⟩ := va_join (wr := [(h0, .inr (10, [v0, .ref h1, .ref h3, .ref h5, .ref h7, .ref h9, .ref h11, v1, v2])), (h1, .inr (11, [.ref h2, .int 1])), (h2, .inl (cc0, 4960, .inl (upd (f0) 0 0))), (h3, .inr (11, [.ref h4, .int 1])), (h4, .inl (cc1, 4960, .inl (upd (f1) 0 0))), (h5, .inr (11, [.ref h6, .int 1])), (h6, .inl (cc2, 4960, .inl (upd (f2) 0 1))), (h7, .inr (11, [.ref h8, .int 1])), (h8, .inl (cc3, 4960, .inl (upd (f3) 0 0))), (h9, .inr (11, [.ref h10, .int 1])), (h10, .inl (cc4, 4960, .inl (upd (f4) 0 1)))]) (w1 := [(h11, .inr (11, [.ref h12, .int 1])), (h12, .inl (cc5, 4960, .inl (upd (f5) 0 1)))]) hP hD [1, 2] [0, 3, 4, 5, 6, 7, 8, 9, 10, 11, 12] rfl rfl (by decide) (by decide) hk1 hFc hP1 hD1
  have hK := (hK.sub (tys' := [(cc0, .int), (cc1, .int), (cc2, .int), (cc3, .int), (cc4, .int)]) [1, 2, 3, 4, 5] rfl).app hK1
  generalize H1 = H at hP hS ⊢
  have hP : va_P (dC, dI) vwCl [(h0, .inr (10, [v0, .ref h1, .ref h3, .ref h5, .ref h7, .ref h9, .ref h11, v1, v2])), (h1, .inr (11, [.ref h2, .int 1])), (h2, .inl (cc0, 4960, .inl (upd (f0) 0 0))), (h3, .inr (11, [.ref h4, .int 1])), (h4, .inl (cc1, 4960, .inl (upd (f1) 0 0))), (h5, .inr (11, [.ref h6, .int 1])), (h6, .inl (cc2, 4960, .inl (upd (f2) 0 1))), (h7, .inr (11, [.ref h8, .int 1])), (h8, .inl (cc3, 4960, .inl (upd (f3) 0 0))), (h9, .inr (11, [.ref h10, .int 1])), (h10, .inl (cc4, 4960, .inl (upd (f4) 0 1))), (h11, .inr (11, [.ref h12, .int 1])), (h12, .inl (cc5, 4960, .inl (upd (f5) 0 1)))] H := hP
  have hD : va_D A [(h0, .inr (10, [v0, .ref h1, .ref h3, .ref h5, .ref h7, .ref h9, .ref h11, v1, v2])), (h1, .inr (11, [.ref h2, .int 1])), (h2, .inl (cc0, 4960, .inl (upd (f0) 0 0))), (h3, .inr (11, [.ref h4, .int 1])), (h4, .inl (cc1, 4960, .inl (upd (f1) 0 0))), (h5, .inr (11, [.ref h6, .int 1])), (h6, .inl (cc2, 4960, .inl (upd (f2) 0 1))), (h7, .inr (11, [.ref h8, .int 1])), (h8, .inl (cc3, 4960, .inl (upd (f3) 0 0))), (h9, .inr (11, [.ref h10, .int 1])), (h10, .inl (cc4, 4960, .inl (upd (f4) 0 1))), (h11, .inr (11, [.ref h12, .int 1])), (h12, .inl (cc5, 4960, .inl (upd (f5) 0 1)))] := hD
  have hK : va_K (dC, dI) vwCl [(cc0, .int), (cc1, .int), (cc2, .int), (cc3, .int), (cc4, .int), (cc5, .int)] s := hK
  refine W.widen (k := 0) (n := 0) (Nat.le_of_ble_eq_true rfl) (Nat.le_of_ble_eq_true rfl) ?_
  refine lv_aload_n hx hb dX3_addPlace_51 rfl (lv_at hl 0 rfl) ?_
  refine va_get (D := (dC, dI)) (ci := 10) (v := .ref h1) (C := RX3) (T := TX3) (N := 9) hx hb hts (by decide +kernel) hown hK hP 0 rfl rfl 1 (by decide) (hts (.fieldLink RX3 20 "Nestprint$Nodes" "kinds" "LNestprint$Row;") (by decide +kernel)) (fun _ h9 => h9) rfl dX3_addPlace_52 ?_
  have hPc := hP.sub (ws' := [(h1, .inr (11, [.ref h2, .int 1]))]) [1] rfl
  have hDc := hD.sub (ws' := [(h1, .inr (11, [.ref h2, .int 1]))]) [1] (by decide) rfl
  have hKc := hK.sub (tys' := []) [] rfl
  have hFc := va_free (wc := [(h1, .inr (11, [.ref h2, .int 1]))]) hD hS hA [1] rfl
  refine va_calli (va_runV (As := []) (rest := []) ⟨hx, hb, hml, hown, hts⟩ (kX4_size_2 l dC dI g H.size h1 (.ref h2) ) (cwV 0 hts gX3_addPlace_X4_size rfl rfl rfl (by decide +kernel) ⟨Nat.le_of_ble_eq_true rfl, Nat.le_of_ble_eq_true rfl⟩) ⟨fun a U gg mk q => by obtain ⟨q0, q1, qP, qK, qD, qF⟩ := q; exact ⟨q0, q1, qP, va_K.moved (u := U) (U := U.calling gg mk a) (Vm.Alike.refl U.vm) qK, qD, ns_same qF⟩, va_recv hK hP (ci := 11) (q0 := 1) rfl rfl, fun U hU hW => ⟨rfl, by rw [hU], by rw [hU]; exact hPc, va_K.moved hW.alike hKc, hDc.weaken (fun _ _ _ _ => trivial), ns_call hF hS hFc hU hW⟩⟩ rfl rfl hl.1 rfl (lv_room (Nat.le_of_ble_eq_true rfl)) dX3_addPlace_55 ⟨Nat.le_of_ble_eq_true rfl, Nat.le_of_ble_eq_true rfl⟩) hS (fun q _ h => hFc q h) hFc (fun r9 u t H1 locs ht hvm hw hB hz1 hk1 hS => ?_)
  obtain rfl := hw
  obtain ⟨hP1, hK1, hD1⟩ := hB
  rw [ht] at hP1
  have hK1 := va_K.moved hvm.symm hK1
  obtain ⟨hP, hD⟩ := va_join (wr := [(h0, .inr (10, [v0, .ref h1, .ref h3, .ref h5, .ref h7, .ref h9, .ref h11, v1, v2])), (h2, .inl (cc0, 4960, .inl (upd (f0) 0 0))), (h3, .inr (11, [.ref h4, .int 1])), (h4, .inl (cc1, 4960, .inl (upd (f1) 0 0))), (h5, .inr (11, [.ref h6, .int 1])), (h6, .inl (cc2, 4960, .inl (upd (f2) 0 1))), (h7, .inr (11, [.ref h8, .int 1])), (h8, .inl (cc3, 4960, .inl (upd (f3) 0 0))), (h9, .inr (11, [.ref h10, .int 1])), (h10, .inl (cc4, 4960, .inl (upd (f4) 0 1))), (h11, .inr (11, [.ref h12, .int 1])), (h12, .inl (cc5, 4960, .inl (upd (f5) 0 1)))]) (w1 := [(h1, .inr (11, [.ref h2, .int 1]))]) hP hD [1] [0, 2, 3, 4, 5, 6, 7, 8, 9, 10, 11, 12] rfl rfl (by decide) (by decide) hk1 hFc hP1 hD1
  have hK := (hK.sub (tys' := [(cc0, .int), (cc1, .int), (cc2, .int), (cc3, .int), (cc4, .int), (cc5, .int)]) [0, 1, 2, 3, 4, 5] rfl).app hK1
  generalize H1 = H at hP hS ⊢
  have hP : va_P (dC, dI) vwCl [(h0, .inr (10, [v0, .ref h1, .ref h3, .ref h5, .ref h7, .ref h9, .ref h11, v1, v2])), (h2, .inl (cc0, 4960, .inl (upd (f0) 0 0))), (h3, .inr (11, [.ref h4, .int 1])), (h4, .inl (cc1, 4960, .inl (upd (f1) 0 0))), (h5, .inr (11, [.ref h6, .int 1])), (h6, .inl (cc2, 4960, .inl (upd (f2) 0 1))), (h7, .inr (11, [.ref h8, .int 1])), (h8, .inl (cc3, 4960, .inl (upd (f3) 0 0))), (h9, .inr (11, [.ref h10, .int 1])), (h10, .inl (cc4, 4960, .inl (upd (f4) 0 1))), (h11, .inr (11, [.ref h12, .int 1])), (h12, .inl (cc5, 4960, .inl (upd (f5) 0 1))), (h1, .inr (11, [.ref h2, .int 1]))] H := hP
  have hD : va_D A [(h0, .inr (10, [v0, .ref h1, .ref h3, .ref h5, .ref h7, .ref h9, .ref h11, v1, v2])), (h2, .inl (cc0, 4960, .inl (upd (f0) 0 0))), (h3, .inr (11, [.ref h4, .int 1])), (h4, .inl (cc1, 4960, .inl (upd (f1) 0 0))), (h5, .inr (11, [.ref h6, .int 1])), (h6, .inl (cc2, 4960, .inl (upd (f2) 0 1))), (h7, .inr (11, [.ref h8, .int 1])), (h8, .inl (cc3, 4960, .inl (upd (f3) 0 0))), (h9, .inr (11, [.ref h10, .int 1])), (h10, .inl (cc4, 4960, .inl (upd (f4) 0 1))), (h11, .inr (11, [.ref h12, .int 1])), (h12, .inl (cc5, 4960, .inl (upd (f5) 0 1))), (h1, .inr (11, [.ref h2, .int 1]))] := hD
  have hK : va_K (dC, dI) vwCl [(cc0, .int), (cc1, .int), (cc2, .int), (cc3, .int), (cc4, .int), (cc5, .int)] s := hK
  refine W.widen (k := 0) (n := 0) (Nat.le_of_ble_eq_true rfl) (Nat.le_of_ble_eq_true rfl) ?_
  refine lv_iconst (v := 1) hx hb dX3_addPlace_58 (by decide) ?_
  refine lv_isub hx hb dX3_addPlace_59 ?_
  refine lv_topi (fun y1 ey1 => ?_)
  obtain rfl : y1 = 0 := ey1.trans (by decide)
  have hP9 := hP.sub (ws' := [(h0, .inr (10, [v0, .ref h1, .ref h3, .ref h5, .ref h7, .ref h9, .ref h11, v1, v2])), (h2, .inl (cc0, 4960, .inl (upd (f0) 0 0))), (h3, .inr (11, [.ref h4, .int 1])), (h4, .inl (cc1, 4960, .inl (upd (f1) 0 0))), (h5, .inr (11, [.ref h6, .int 1])), (h6, .inl (cc2, 4960, .inl (upd (f2) 0 1))), (h7, .inr (11, [.ref h8, .int 1])), (h8, .inl (cc3, 4960, .inl (upd (f3) 0 0))), (h9, .inr (11, [.ref h10, .int 1])), (h10, .inl (cc4, 4960, .inl (upd (f4) 0 1))), (h11, .inr (11, [.ref h12, .int 1])), (h12, .inl (cc5, 4960, .inl (upd (f5) 0 1))), (h1, .inr (11, [.ref h2, .int 1]))]) [0, 1, 2, 3, 4, 5, 6, 7, 8, 9, 10, 11, 12] rfl
  have hD9 := hD.sub (ws' := [(h0, .inr (10, [v0, .ref h1, .ref h3, .ref h5, .ref h7, .ref h9, .ref h11, v1, v2])), (h2, .inl (cc0, 4960, .inl (upd (f0) 0 0))), (h3, .inr (11, [.ref h4, .int 1])), (h4, .inl (cc1, 4960, .inl (upd (f1) 0 0))), (h5, .inr (11, [.ref h6, .int 1])), (h6, .inl (cc2, 4960, .inl (upd (f2) 0 1))), (h7, .inr (11, [.ref h8, .int 1])), (h8, .inl (cc3, 4960, .inl (upd (f3) 0 0))), (h9, .inr (11, [.ref h10, .int 1])), (h10, .inl (cc4, 4960, .inl (upd (f4) 0 1))), (h11, .inr (11, [.ref h12, .int 1])), (h12, .inl (cc5, 4960, .inl (upd (f5) 0 1))), (h1, .inr (11, [.ref h2, .int 1]))]) [0, 1, 2, 3, 4, 5, 6, 7, 8, 9, 10, 11, 12] (by decide) rfl
  have hK9 := hK.sub (tys' := [(cc0, .int), (cc1, .int), (cc2, .int), (cc3, .int), (cc4, .int), (cc5, .int)]) [0, 1, 2, 3, 4, 5] rfl
  refine W.widen (k := 0) (n := 0) (Nat.le_of_ble_eq_true rfl) (Nat.le_of_ble_eq_true rfl) ?_
  exact W.iret (v := 0) hx hb hr (fun t ht hW => ⟨⟨_, (), rfl, rfl, by rw [ht]; exact hP9, va_K.moved hW.alike hK9, hD9⟩, hS.F ht⟩) hS.2.2 dX3_addPlace_60
set_option maxHeartbeats 4000000 in
set_option maxRecDepth 100000 in
theorem kX3_addText (l : Launch) (dC : Nat → ClassId) (dI : Nat → Nat → Nat) (g : Nat → Nat) (sz : Nat) (h0 : Nat) (h1 : Nat) (h2 : Nat) (h3 : Nat) (h4 : Nat) (h5 : Nat) (h6 : Nat) (h7 : Nat) (h8 : Nat) (h9 : Nat) (h10 : Nat) (h11 : Nat) (h12 : Nat) (h13 : Nat) (v0 : Value) (v1 : Value) (v2 : Value) (cc0 : ClassId) (f0 : Nat → Int32) (cc1 : ClassId) (f1 : Nat → Int32) (cc2 : ClassId) (f2 : Nat → Int32) (cc3 : ClassId) (f3 : Nat → Int32) (cc4 : ClassId) (f4 : Nat → Int32) (cc5 : ClassId) (f5 : Nat → Int32) : Met l yX3_addText wsX3_addText ({ frames := 2, cells := 0, slots := 0, locals := 47 }) (va_Pc [.ref h0, .int 1] (fun U => U.heap.size = sz ∧ va_P (dC, dI) vwCl [(h0, .inr (10, [v0, .ref h2, .ref h4, .ref h6, .ref h8, .ref h10, .ref h12, v1, .ref h1])), (h1, .inr (11, [v2, .int 1])), (h2, .inr (11, [.ref h3, .int 0])), (h3, .inl (cc0, 4960, .inl f0)), (h4, .inr (11, [.ref h5, .int 0])), (h5, .inl (cc1, 4960, .inl f1)), (h6, .inr (11, [.ref h7, .int 0])), (h7, .inl (cc2, 4960, .inl f2)), (h8, .inr (11, [.ref h9, .int 0])), (h9, .inl (cc3, 4960, .inl f3)), (h10, .inr (11, [.ref h11, .int 0])), (h11, .inl (cc4, 4960, .inl f4)), (h12, .inr (11, [.ref h13, .int 0])), (h13, .inl (cc5, 4960, .inl f5))] U.heap ∧ va_K (dC, dI) vwCl [(cc0, .int), (cc1, .int), (cc2, .int), (cc3, .int), (cc4, .int), (cc5, .int)] U ∧ va_D (fun _ => True) [(h0, .inr (10, [v0, .ref h2, .ref h4, .ref h6, .ref h8, .ref h10, .ref h12, v1, .ref h1])), (h1, .inr (11, [v2, .int 1])), (h2, .inr (11, [.ref h3, .int 0])), (h3, .inl (cc0, 4960, .inl f0)), (h4, .inr (11, [.ref h5, .int 0])), (h5, .inl (cc1, 4960, .inl f1)), (h6, .inr (11, [.ref h7, .int 0])), (h7, .inl (cc2, 4960, .inl f2)), (h8, .inr (11, [.ref h9, .int 0])), (h9, .inl (cc3, 4960, .inl f3)), (h10, .inr (11, [.ref h11, .int 0])), (h11, .inl (cc4, 4960, .inl f4)), (h12, .inr (11, [.ref h13, .int 0])), (h13, .inl (cc5, 4960, .inl f5))] ∧ ns_F g (va_A [(h0, .inr (10, [v0, .ref h2, .ref h4, .ref h6, .ref h8, .ref h10, .ref h12, v1, .ref h1])), (h1, .inr (11, [v2, .int 1])), (h2, .inr (11, [.ref h3, .int 0])), (h3, .inl (cc0, 4960, .inl f0)), (h4, .inr (11, [.ref h5, .int 0])), (h5, .inl (cc1, 4960, .inl f1)), (h6, .inr (11, [.ref h7, .int 0])), (h7, .inl (cc2, 4960, .inl f2)), (h8, .inr (11, [.ref h9, .int 0])), (h9, .inl (cc3, 4960, .inl f3)), (h10, .inr (11, [.ref h11, .int 0])), (h11, .inl (cc4, 4960, .inl f4)), (h12, .inr (11, [.ref h13, .int 0])), (h13, .inl (cc5, 4960, .inl f5))] sz) U U.heap)) (va_Qi (fun (r : Int32) (_ : Unit) => r = 0) (fun _ t => va_P (dC, dI) vwCl [(h1, .inr (11, [v2, .int 1])), (h0, .inr (10, [v0, .ref h2, .ref h4, .ref h6, .ref h8, .ref h10, .ref h12, v1, .ref h1])), (h3, .inl (cc0, 4960, .inl (upd (f0) 0 0))), (h4, .inr (11, [.ref h5, .int 1])), (h5, .inl (cc1, 4960, .inl (upd (f1) 0 0))), (h6, .inr (11, [.ref h7, .int 1])), (h7, .inl (cc2, 4960, .inl (upd (f2) 0 1))), (h8, .inr (11, [.ref h9, .int 1])), (h9, .inl (cc3, 4960, .inl (upd (f3) 0 0))), (h10, .inr (11, [.ref h11, .int 1])), (h11, .inl (cc4, 4960, .inl (upd (f4) 0 1))), (h12, .inr (11, [.ref h13, .int 1])), (h13, .inl (cc5, 4960, .inl (upd (f5) 0 1))), (h2, .inr (11, [.ref h3, .int 1]))] t.heap ∧ va_K (dC, dI) vwCl [(cc0, .int), (cc1, .int), (cc2, .int), (cc3, .int), (cc4, .int), (cc5, .int)] t ∧ va_D (va_A [(h0, .inr (10, [v0, .ref h2, .ref h4, .ref h6, .ref h8, .ref h10, .ref h12, v1, .ref h1])), (h1, .inr (11, [v2, .int 1])), (h2, .inr (11, [.ref h3, .int 0])), (h3, .inl (cc0, 4960, .inl f0)), (h4, .inr (11, [.ref h5, .int 0])), (h5, .inl (cc1, 4960, .inl f1)), (h6, .inr (11, [.ref h7, .int 0])), (h7, .inl (cc2, 4960, .inl f2)), (h8, .inr (11, [.ref h9, .int 0])), (h9, .inl (cc3, 4960, .inl f3)), (h10, .inr (11, [.ref h11, .int 0])), (h11, .inl (cc4, 4960, .inl f4)), (h12, .inr (11, [.ref h13, .int 0])), (h13, .inl (cc5, 4960, .inl f5))] sz) [(h1, .inr (11, [v2, .int 1])), (h0, .inr (10, [v0, .ref h2, .ref h4, .ref h6, .ref h8, .ref h10, .ref h12, v1, .ref h1])), (h3, .inl (cc0, 4960, .inl (upd (f0) 0 0))), (h4, .inr (11, [.ref h5, .int 1])), (h5, .inl (cc1, 4960, .inl (upd (f1) 0 0))), (h6, .inr (11, [.ref h7, .int 1])), (h7, .inl (cc2, 4960, .inl (upd (f2) 0 1))), (h8, .inr (11, [.ref h9, .int 1])), (h9, .inl (cc3, 4960, .inl (upd (f3) 0 0))), (h10, .inr (11, [.ref h11, .int 1])), (h11, .inl (cc4, 4960, .inl (upd (f4) 0 1))), (h12, .inr (11, [.ref h13, .int 1])), (h13, .inl (cc5, 4960, .inl (upd (f5) 0 1))), (h2, .inr (11, [.ref h3, .int 1]))]) (va_A [(h0, .inr (10, [v0, .ref h2, .ref h4, .ref h6, .ref h8, .ref h10, .ref h12, v1, .ref h1])), (h1, .inr (11, [v2, .int 1])), (h2, .inr (11, [.ref h3, .int 0])), (h3, .inl (cc0, 4960, .inl f0)), (h4, .inr (11, [.ref h5, .int 0])), (h5, .inl (cc1, 4960, .inl f1)), (h6, .inr (11, [.ref h7, .int 0])), (h7, .inl (cc2, 4960, .inl f2)), (h8, .inr (11, [.ref h9, .int 0])), (h9, .inl (cc3, 4960, .inl f3)), (h10, .inr (11, [.ref h11, .int 0])), (h11, .inl (cc4, 4960, .inl f4)), (h12, .inr (11, [.ref h13, .int 0])), (h13, .inl (cc5, 4960, .inl f5))] sz)) 0 0 (va_A [(h0, .inr (10, [v0, .ref h2, .ref h4, .ref h6, .ref h8, .ref h10, .ref h12, v1, .ref h1])), (h1, .inr (11, [v2, .int 1])), (h2, .inr (11, [.ref h3, .int 0])), (h3, .inl (cc0, 4960, .inl f0)), (h4, .inr (11, [.ref h5, .int 0])), (h5, .inl (cc1, 4960, .inl f1)), (h6, .inr (11, [.ref h7, .int 0])), (h7, .inl (cc2, 4960, .inl f2)), (h8, .inr (11, [.ref h9, .int 0])), (h9, .inl (cc3, 4960, .inl f3)), (h10, .inr (11, [.ref h11, .int 0])), (h11, .inl (cc4, 4960, .inl f4)), (h12, .inr (11, [.ref h13, .int 0])), (h13, .inl (cc5, 4960, .inl f5))] sz) := by
  refine Met.ofW (cc := cX3_addText) (maxL := 2) (ret := (some .int)) (by decide) rfl ?_
  intro p e s m args below meth c s₁ B hml hv
  obtain ⟨rfl, hsz, hP, hK, hD0, hF⟩ := hv
  have hx := B.exec
  have hb := B.bytes
  have hr := B.returns
  have hts := atoms_spec (ws := wsX3_addText) B.pre
  have hown : s.vm.findClass RX3 = some m.cls := findClass_of_methodNamed B.named
  have hlocks := B.notSynchronized
  subst hsz
  have hD := hD0.self (sz := s.heap.size)
  generalize hAe : va_A [(h0, .inr (10, [v0, .ref h2, .ref h4, .ref h6, .ref h8, .ref h10, .ref h12, v1, .ref h1])), (h1, .inr (11, [v2, .int 1])), (h2, .inr (11, [.ref h3, .int 0])), (h3, .inl (cc0, 4960, .inl f0)), (h4, .inr (11, [.ref h5, .int 0])), (h5, .inl (cc1, 4960, .inl f1)), (h6, .inr (11, [.ref h7, .int 0])), (h7, .inl (cc2, 4960, .inl f2)), (h8, .inr (11, [.ref h9, .int 0])), (h9, .inl (cc3, 4960, .inl f3)), (h10, .inr (11, [.ref h11, .int 0])), (h11, .inl (cc4, 4960, .inl f4)), (h12, .inr (11, [.ref h13, .int 0])), (h13, .inl (cc5, 4960, .inl f5))] s.heap.size = A at hD hF ⊢
  have hA : ∀ q : Nat, s.heap.size ≤ q → A q := fun q h => by rw [← hAe]; exact Or.inr h
  have hS : va_S A s.heap s.heap [] := va_S.rf
  have hP : va_P (dC, dI) vwCl [(h0, .inr (10, [v0, .ref h2, .ref h4, .ref h6, .ref h8, .ref h10, .ref h12, v1, .ref h1])), (h1, .inr (11, [v2, .int 1])), (h2, .inr (11, [.ref h3, .int 0])), (h3, .inl (cc0, 4960, .inl f0)), (h4, .inr (11, [.ref h5, .int 0])), (h5, .inl (cc1, 4960, .inl f1)), (h6, .inr (11, [.ref h7, .int 0])), (h7, .inl (cc2, 4960, .inl f2)), (h8, .inr (11, [.ref h9, .int 0])), (h9, .inl (cc3, 4960, .inl f3)), (h10, .inr (11, [.ref h11, .int 0])), (h11, .inl (cc4, 4960, .inl f4)), (h12, .inr (11, [.ref h13, .int 0])), (h13, .inl (cc5, 4960, .inl f5))] s.heap := hP
  have hl := lv_entry ([.ref h0, .int 1]) (n := 2) (Nat.le_of_ble_eq_true rfl)
  rw [lg_entry_eq]
  generalize (lg_sl ([.ref h0, .int 1]) ++ List.replicate (2 - (lg_sl ([.ref h0, .int 1])).length) Slot.unset).toArray = ls at hl ⊢
  have hl : lv_has ls 2 [(0, .ref h0), (1, .int 1)] := hl
  refine lv_aload_n hx hb dX3_addText_0 rfl (lv_at hl 0 rfl) ?_
  refine lv_iconst (v := 0) hx hb dX3_addText_1 (by decide) ?_
  refine lv_aload_n hx hb dX3_addText_2 rfl (lv_at hl 0 rfl) ?_
  refine va_get (D := (dC, dI)) (ci := 10) (v := .ref h1) (C := RX3) (T := TX3) (N := 9) hx hb hts (by decide +kernel) hown hK hP 0 rfl rfl 8 (by decide) (hts (.fieldLink RX3 41 "Nestprint$Nodes" "signs" "LNestprint$Row;") (by decide +kernel)) (fun _ h9 => h9) rfl dX3_addText_3 ?_
  have hPc := hP.sub (ws' := [(h1, .inr (11, [v2, .int 1]))]) [1] rfl
  have hDc := hD.sub (ws' := [(h1, .inr (11, [v2, .int 1]))]) [1] (by decide) rfl
  have hKc := hK.sub (tys' := []) [] rfl
  have hFc := va_free (wc := [(h1, .inr (11, [v2, .int 1]))]) hD hS hA [1] rfl
  refine va_calli (va_runV (As := []) (rest := [.int 0, .ref h0]) ⟨hx, hb, hml, hown, hts⟩ (kX4_size_2 l dC dI g s.heap.size h1 v2 ) (cwV 0 hts gX3_addText_X4_size rfl rfl rfl (by decide +kernel) ⟨Nat.le_of_ble_eq_true rfl, Nat.le_of_ble_eq_true rfl⟩) ⟨fun a U gg mk q => by obtain ⟨q0, q1, qP, qK, qD, qF⟩ := q; exact ⟨q0, q1, qP, va_K.moved (u := U) (U := U.calling gg mk a) (Vm.Alike.refl U.vm) qK, qD, ns_same qF⟩, va_recv hK hP (ci := 11) (q0 := 1) rfl rfl, fun U hU hW => ⟨rfl, by rw [hU], by rw [hU]; exact hPc, va_K.moved hW.alike hKc, hDc.weaken (fun _ _ _ _ => trivial), ns_call hF hS hFc hU hW⟩⟩ rfl rfl hl.1 rfl (lv_room (Nat.le_of_ble_eq_true rfl)) dX3_addText_6 ⟨Nat.le_of_ble_eq_true rfl, Nat.le_of_ble_eq_true rfl⟩) hS (fun q _ h => hFc q h) hFc (fun r9 u t H1 locs ht hvm hw hB hz1 hk1 hS => ?_)
  obtain rfl := hw
  obtain ⟨hP1, hK1, hD1⟩ := hB
  rw [ht] at hP1
  have hK1 := va_K.moved hvm.symm hK1
  obtain ⟨hP, hD⟩ := va_join (wr := [(h0, .inr (10, [v0, .ref h2, .ref h4, .ref h6, .ref h8, .ref h10, .ref h12, v1, .ref h1])), (h2, .inr (11, [.ref h3, .int 0])), (h3, .inl (cc0, 4960, .inl f0)), (h4, .inr (11, [.ref h5, .int 0])), (h5, .inl (cc1, 4960, .inl f1)), (h6, .inr (11, [.ref h7, .int 0])), (h7, .inl (cc2, 4960, .inl f2)), (h8, .inr (11, [.ref h9, .int 0])), (h9, .inl (cc3, 4960, .inl f3)), (h10, .inr (11, [.ref h11, .int 0])), (h11, .inl (cc4, 4960, .inl f4)), (h12, .inr (11, [.ref h13, .int 0])), (h13, .inl (cc5, 4960, .inl f5))]) (w1 := [(h1, .inr (11, [v2, .int 1]))]) hP hD [1] [0, 2, 3, 4, 5, 6, 7, 8, 9, 10, 11, 12, 13] rfl rfl (by decide) (by decide) hk1 hFc hP1 hD1
  have hK := (hK.sub (tys' := [(cc0, .int), (cc1, .int), (cc2, .int), (cc3, .int), (cc4, .int), (cc5, .int)]) [0, 1, 2, 3, 4, 5] rfl).app hK1
  generalize H1 = H at hP hS ⊢
  have hP : va_P (dC, dI) vwCl [(h0, .inr (10, [v0, .ref h2, .ref h4, .ref h6, .ref h8, .ref h10, .ref h12, v1, .ref h1])), (h2, .inr (11, [.ref h3, .int 0])), (h3, .inl (cc0, 4960, .inl f0)), (h4, .inr (11, [.ref h5, .int 0])), (h5, .inl (cc1, 4960, .inl f1)), (h6, .inr (11, [.ref h7, .int 0])), (h7, .inl (cc2, 4960, .inl f2)), (h8, .inr (11, [.ref h9, .int 0])), (h9, .inl (cc3, 4960, .inl f3)), (h10, .inr (11, [.ref h11, .int 0])), (h11, .inl (cc4, 4960, .inl f4)), (h12, .inr (11, [.ref h13, .int 0])), (h13, .inl (cc5, 4960, .inl f5)), (h1, .inr (11, [v2, .int 1]))] H := hP
  have hD : va_D A [(h0, .inr (10, [v0, .ref h2, .ref h4, .ref h6, .ref h8, .ref h10, .ref h12, v1, .ref h1])), (h2, .inr (11, [.ref h3, .int 0])), (h3, .inl (cc0, 4960, .inl f0)), (h4, .inr (11, [.ref h5, .int 0])), (h5, .inl (cc1, 4960, .inl f1)), (h6, .inr (11, [.ref h7, .int 0])), (h7, .inl (cc2, 4960, .inl f2)), (h8, .inr (11, [.ref h9, .int 0])), (h9, .inl (cc3, 4960, .inl f3)), (h10, .inr (11, [.ref h11, .int 0])), (h11, .inl (cc4, 4960, .inl f4)), (h12, .inr (11, [.ref h13, .int 0])), (h13, .inl (cc5, 4960, .inl f5)), (h1, .inr (11, [v2, .int 1]))] := hD
  have hK : va_K (dC, dI) vwCl [(cc0, .int), (cc1, .int), (cc2, .int), (cc3, .int), (cc4, .int), (cc5, .int)] s := hK
  refine W.widen (k := 0) (n := 0) (Nat.le_of_ble_eq_true rfl) (Nat.le_of_ble_eq_true rfl) ?_
  refine lv_iload_n hx hb dX3_addText_9 rfl (lv_at hl 1 rfl) ?_
  refine lv_isub hx hb dX3_addText_10 ?_
  refine lv_topi (fun y1 ey1 => ?_)
  obtain rfl : y1 = 0 := ey1.trans (by decide)
  refine lv_iload_n hx hb dX3_addText_11 rfl (lv_at hl 1 rfl) ?_
  refine lv_iconst (v := 0) hx hb dX3_addText_12 (by decide) ?_
  refine lv_iconst (v := 1) hx hb dX3_addText_13 (by decide) ?_
  refine lv_iconst (v := 1) hx hb dX3_addText_14 (by decide) ?_
  have hPc := hP.sub (ws' := [(h0, .inr (10, [v0, .ref h2, .ref h4, .ref h6, .ref h8, .ref h10, .ref h12, v1, .ref h1])), (h2, .inr (11, [.ref h3, .int 0])), (h3, .inl (cc0, 4960, .inl f0)), (h4, .inr (11, [.ref h5, .int 0])), (h5, .inl (cc1, 4960, .inl f1)), (h6, .inr (11, [.ref h7, .int 0])), (h7, .inl (cc2, 4960, .inl f2)), (h8, .inr (11, [.ref h9, .int 0])), (h9, .inl (cc3, 4960, .inl f3)), (h10, .inr (11, [.ref h11, .int 0])), (h11, .inl (cc4, 4960, .inl f4)), (h12, .inr (11, [.ref h13, .int 0])), (h13, .inl (cc5, 4960, .inl f5))]) [0, 1, 2, 3, 4, 5, 6, 7, 8, 9, 10, 11, 12] rfl
  have hDc := hD.sub (ws' := [(h0, .inr (10, [v0, .ref h2, .ref h4, .ref h6, .ref h8, .ref h10, .ref h12, v1, .ref h1])), (h2, .inr (11, [.ref h3, .int 0])), (h3, .inl (cc0, 4960, .inl f0)), (h4, .inr (11, [.ref h5, .int 0])), (h5, .inl (cc1, 4960, .inl f1)), (h6, .inr (11, [.ref h7, .int 0])), (h7, .inl (cc2, 4960, .inl f2)), (h8, .inr (11, [.ref h9, .int 0])), (h9, .inl (cc3, 4960, .inl f3)), (h10, .inr (11, [.ref h11, .int 0])), (h11, .inl (cc4, 4960, .inl f4)), (h12, .inr (11, [.ref h13, .int 0])), (h13, .inl (cc5, 4960, .inl f5))]) [0, 1, 2, 3, 4, 5, 6, 7, 8, 9, 10, 11, 12] (by decide) rfl
  have hKc := hK.sub (tys' := [(cc0, .int), (cc1, .int), (cc2, .int), (cc3, .int), (cc4, .int), (cc5, .int)]) [0, 1, 2, 3, 4, 5] rfl
  have hFc := va_free (wc := [(h0, .inr (10, [v0, .ref h2, .ref h4, .ref h6, .ref h8, .ref h10, .ref h12, v1, .ref h1])), (h2, .inr (11, [.ref h3, .int 0])), (h3, .inl (cc0, 4960, .inl f0)), (h4, .inr (11, [.ref h5, .int 0])), (h5, .inl (cc1, 4960, .inl f1)), (h6, .inr (11, [.ref h7, .int 0])), (h7, .inl (cc2, 4960, .inl f2)), (h8, .inr (11, [.ref h9, .int 0])), (h9, .inl (cc3, 4960, .inl f3)), (h10, .inr (11, [.ref h11, .int 0])), (h11, .inl (cc4, 4960, .inl f4)), (h12, .inr (11, [.ref h13, .int 0])), (h13, .inl (cc5, 4960, .inl f5))]) hD hS hA [0, 1, 2, 3, 4, 5, 6, 7, 8, 9, 10, 11, 12] rfl
  refine va_calli (va_runV (As := [.int 0, .int 0, .int 1, .int 0, .int 1, .int 1]) (rest := []) ⟨hx, hb, hml, hown, hts⟩ (kX3_addPlace l dC dI g H.size h0 h2 h3 h4 h5 h6 h7 h8 h9 h10 h11 h12 h13 v0 v1 (.ref h1) cc0 f0 cc1 f1 cc2 f2 cc3 f3 cc4 f4 cc5 f5 ) (cwV 6 hts gX3_addText_X3_addPlace rfl rfl rfl (by decide +kernel) ⟨Nat.le_of_ble_eq_true rfl, Nat.le_of_ble_eq_true rfl⟩) ⟨fun a U gg mk q => by obtain ⟨q0, q1, qP, qK, qD, qF⟩ := q; exact ⟨q0, q1, qP, va_K.moved (u := U) (U := U.calling gg mk a) (Vm.Alike.refl U.vm) qK, qD, ns_same qF⟩, va_recv hK hP (ci := 10) (q0 := 0) rfl rfl, fun U hU hW => ⟨rfl, by rw [hU], by rw [hU]; exact hPc, va_K.moved hW.alike hKc, hDc.weaken (fun _ _ _ _ => trivial), ns_call hF hS hFc hU hW⟩⟩ rfl rfl hl.1 rfl (lv_room (Nat.le_of_ble_eq_true rfl)) dX3_addText_15 ⟨Nat.le_of_ble_eq_true rfl, Nat.le_of_ble_eq_true rfl⟩) hS (fun q _ h => hFc q h) hFc (fun r9 u t H1 locs ht hvm hw hB hz1 hk1 hS => ?_)
  obtain rfl := hw
  obtain ⟨hP1, hK1, hD1⟩ := hB
  rw [ht] at hP1
  have hK1 := va_K.moved hvm.symm hK1
  obtain ⟨hP, hD⟩ := va_join (wr := [(h1, .inr (11, [v2, .int 1]))]) (w1 := [(h0, .inr (10, [v0, .ref h2, .ref h4, .ref h6, .ref h8, .ref h10, .ref h12, v1, .ref h1])), (h3, .inl (cc0, 4960, .inl (upd (f0) 0 0))), (h4, .inr (11, [.ref h5, .int 1])), (h5, .inl (cc1, 4960, .inl (upd (f1) 0 0))), (h6, .inr (11, [.ref h7, .int 1])), (h7, .inl (cc2, 4960, .inl (upd (f2) 0 1))), (h8, .inr (11, [.ref h9, .int 1])), (h9, .inl (cc3, 4960, .inl (upd (f3) 0 0))), (h10, .inr (11, [.ref h11, .int 1])), (h11, .inl (cc4, 4960, .inl (upd (f4) 0 1))), (h12, .inr (11, [.ref h13, .int 1])), (h13, .inl (cc5, 4960, .inl (upd (f5) 0 1))), (h2, .inr (11, [.ref h3, .int 1]))]) hP hD [0, 1, 2, 3, 4, 5, 6, 7, 8, 9, 10, 11, 12] [13] rfl rfl (by decide) (by decide) hk1 hFc hP1 hD1
  have hK := (hK.sub (tys' := []) [] rfl).app hK1
  generalize H1 = H at hP hS ⊢
  have hP : va_P (dC, dI) vwCl [(h1, .inr (11, [v2, .int 1])), (h0, .inr (10, [v0, .ref h2, .ref h4, .ref h6, .ref h8, .ref h10, .ref h12, v1, .ref h1])), (h3, .inl (cc0, 4960, .inl (upd (f0) 0 0))), (h4, .inr (11, [.ref h5, .int 1])), (h5, .inl (cc1, 4960, .inl (upd (f1) 0 0))), (h6, .inr (11, [.ref h7, .int 1])), (h7, .inl (cc2, 4960, .inl (upd (f2) 0 1))), (h8, .inr (11, [.ref h9, .int 1])), (h9, .inl (cc3, 4960, .inl (upd (f3) 0 0))), (h10, .inr (11, [.ref h11, .int 1])), (h11, .inl (cc4, 4960, .inl (upd (f4) 0 1))), (h12, .inr (11, [.ref h13, .int 1])), (h13, .inl (cc5, 4960, .inl (upd (f5) 0 1))), (h2, .inr (11, [.ref h3, .int 1]))] H := hP
  have hD : va_D A [(h1, .inr (11, [v2, .int 1])), (h0, .inr (10, [v0, .ref h2, .ref h4, .ref h6, .ref h8, .ref h10, .ref h12, v1, .ref h1])), (h3, .inl (cc0, 4960, .inl (upd (f0) 0 0))), (h4, .inr (11, [.ref h5, .int 1])), (h5, .inl (cc1, 4960, .inl (upd (f1) 0 0))), (h6, .inr (11, [.ref h7, .int 1])), (h7, .inl (cc2, 4960, .inl (upd (f2) 0 1))), (h8, .inr (11, [.ref h9, .int 1])), (h9, .inl (cc3, 4960, .inl (upd (f3) 0 0))), (h10, .inr (11, [.ref h11, .int 1])), (h11, .inl (cc4, 4960, .inl (upd (f4) 0 1))), (h12, .inr (11, [.ref h13, .int 1])), (h13, .inl (cc5, 4960, .inl (upd (f5) 0 1))), (h2, .inr (11, [.ref h3, .int 1]))] := hD
  have hK : va_K (dC, dI) vwCl [(cc0, .int), (cc1, .int), (cc2, .int), (cc3, .int), (cc4, .int), (cc5, .int)] s := hK
  refine W.widen (k := 0) (n := 0) (Nat.le_of_ble_eq_true rfl) (Nat.le_of_ble_eq_true rfl) ?_
  have hP9 := hP.sub (ws' := [(h1, .inr (11, [v2, .int 1])), (h0, .inr (10, [v0, .ref h2, .ref h4, .ref h6, .ref h8, .ref h10, .ref h12, v1, .ref h1])), (h3, .inl (cc0, 4960, .inl (upd (f0) 0 0))), (h4, .inr (11, [.ref h5, .int 1])), (h5, .inl (cc1, 4960, .inl (upd (f1) 0 0))), (h6, .inr (11, [.ref h7, .int 1])), (h7, .inl (cc2, 4960, .inl (upd (f2) 0 1))), (h8, .inr (11, [.ref h9, .int 1])), (h9, .inl (cc3, 4960, .inl (upd (f3) 0 0))), (h10, .inr (11, [.ref h11, .int 1])), (h11, .inl (cc4, 4960, .inl (upd (f4) 0 1))), (h12, .inr (11, [.ref h13, .int 1])), (h13, .inl (cc5, 4960, .inl (upd (f5) 0 1))), (h2, .inr (11, [.ref h3, .int 1]))]) [0, 1, 2, 3, 4, 5, 6, 7, 8, 9, 10, 11, 12, 13] rfl
  have hD9 := hD.sub (ws' := [(h1, .inr (11, [v2, .int 1])), (h0, .inr (10, [v0, .ref h2, .ref h4, .ref h6, .ref h8, .ref h10, .ref h12, v1, .ref h1])), (h3, .inl (cc0, 4960, .inl (upd (f0) 0 0))), (h4, .inr (11, [.ref h5, .int 1])), (h5, .inl (cc1, 4960, .inl (upd (f1) 0 0))), (h6, .inr (11, [.ref h7, .int 1])), (h7, .inl (cc2, 4960, .inl (upd (f2) 0 1))), (h8, .inr (11, [.ref h9, .int 1])), (h9, .inl (cc3, 4960, .inl (upd (f3) 0 0))), (h10, .inr (11, [.ref h11, .int 1])), (h11, .inl (cc4, 4960, .inl (upd (f4) 0 1))), (h12, .inr (11, [.ref h13, .int 1])), (h13, .inl (cc5, 4960, .inl (upd (f5) 0 1))), (h2, .inr (11, [.ref h3, .int 1]))]) [0, 1, 2, 3, 4, 5, 6, 7, 8, 9, 10, 11, 12, 13] (by decide) rfl
  have hK9 := hK.sub (tys' := [(cc0, .int), (cc1, .int), (cc2, .int), (cc3, .int), (cc4, .int), (cc5, .int)]) [0, 1, 2, 3, 4, 5] rfl
  refine W.widen (k := 0) (n := 0) (Nat.le_of_ble_eq_true rfl) (Nat.le_of_ble_eq_true rfl) ?_
  exact W.iret (v := 0) hx hb hr (fun t ht hW => ⟨⟨_, (), rfl, rfl, by rw [ht]; exact hP9, va_K.moved hW.alike hK9, hD9⟩, hS.F ht⟩) hS.2.2 dX3_addText_18
set_option maxHeartbeats 4000000 in
set_option maxRecDepth 100000 in
theorem kX4_add_4 (l : Launch) (dC : Nat → ClassId) (dI : Nat → Nat → Nat) (g : Nat → Nat) (sz : Nat) (h0 : Nat) (h1 : Nat) (cc0 : ClassId) (f0 : Nat → Int32) : Met l yX4_add wsX4_add ({ frames := 0, cells := 0, slots := 0, locals := 0 }) (va_Pc [.ref h0, .int 0] (fun U => U.heap.size = sz ∧ va_P (dC, dI) vwCl [(h0, .inr (11, [.ref h1, .int 0])), (h1, .inl (cc0, 80, .inl f0))] U.heap ∧ va_K (dC, dI) vwCl [(cc0, .int)] U ∧ va_D (fun _ => True) [(h0, .inr (11, [.ref h1, .int 0])), (h1, .inl (cc0, 80, .inl f0))] ∧ ns_F g (va_A [(h0, .inr (11, [.ref h1, .int 0])), (h1, .inl (cc0, 80, .inl f0))] sz) U U.heap)) (va_Qv (fun _ : Unit => True) (fun _ t => va_P (dC, dI) vwCl [(h0, .inr (11, [.ref h1, .int 1])), (h1, .inl (cc0, 80, .inl (upd (f0) 0 0)))] t.heap ∧ va_K (dC, dI) vwCl [(cc0, .int)] t ∧ va_D (va_A [(h0, .inr (11, [.ref h1, .int 0])), (h1, .inl (cc0, 80, .inl f0))] sz) [(h0, .inr (11, [.ref h1, .int 1])), (h1, .inl (cc0, 80, .inl (upd (f0) 0 0)))]) (va_A [(h0, .inr (11, [.ref h1, .int 0])), (h1, .inl (cc0, 80, .inl f0))] sz)) 0 0 (va_A [(h0, .inr (11, [.ref h1, .int 0])), (h1, .inl (cc0, 80, .inl f0))] sz) := by
  refine Met.ofW (cc := cX4_add) (maxL := 2) (ret := none) (by decide) rfl ?_
  intro p e s m args below meth c s₁ B hml hv
  obtain ⟨rfl, hsz, hP, hK, hD0, hF⟩ := hv
  have hx := B.exec
  have hb := B.bytes
  have hr := B.returns
  have hts := atoms_spec (ws := wsX4_add) B.pre
  have hown : s.vm.findClass RX4 = some m.cls := findClass_of_methodNamed B.named
  have hlocks := B.notSynchronized
  subst hsz
  have hD := hD0.self (sz := s.heap.size)
  generalize hAe : va_A [(h0, .inr (11, [.ref h1, .int 0])), (h1, .inl (cc0, 80, .inl f0))] s.heap.size = A at hD hF ⊢
  have hA : ∀ q : Nat, s.heap.size ≤ q → A q := fun q h => by rw [← hAe]; exact Or.inr h
  have hS : va_S A s.heap s.heap [] := va_S.rf
  have hP : va_P (dC, dI) vwCl [(h0, .inr (11, [.ref h1, .int 0])), (h1, .inl (cc0, 80, .inl f0))] s.heap := hP
  have hl := lv_entry ([.ref h0, .int 0]) (n := 2) (Nat.le_of_ble_eq_true rfl)
  rw [lg_entry_eq]
  generalize (lg_sl ([.ref h0, .int 0]) ++ List.replicate (2 - (lg_sl ([.ref h0, .int 0])).length) Slot.unset).toArray = ls at hl ⊢
  have hl : lv_has ls 2 [(0, .ref h0), (1, .int 0)] := hl
  refine lv_aload_n hx hb dX4_add_0 rfl (lv_at hl 0 rfl) ?_
  refine va_get (D := (dC, dI)) (ci := 11) (v := .int 0) (C := RX4) (T := TX4) (N := 2) hx hb hts (by decide +kernel) hown hK hP 0 rfl rfl 1 (by decide) (hts (.fieldLink RX4 7 "Nestprint$Row" "size" "I") (by decide +kernel)) (fun _ h9 => h9) rfl dX4_add_1 ?_
  refine lv_if_lt (tgt := 39) hx hb dX4_add_4 (by decide) (fun c1 => absurd c1 (by decide)) (fun c1 => ?_)
  refine lv_aload_n hx hb dX4_add_7 rfl (lv_at hl 0 rfl) ?_
  refine va_get (D := (dC, dI)) (ci := 11) (v := .int 0) (C := RX4) (T := TX4) (N := 2) hx hb hts (by decide +kernel) hown hK hP 0 rfl rfl 1 (by decide) (hts (.fieldLink RX4 7 "Nestprint$Row" "size" "I") (by decide +kernel)) (fun _ h9 => h9) rfl dX4_add_8 ?_
  refine lv_aload_n hx hb dX4_add_11 rfl (lv_at hl 0 rfl) ?_
  refine va_get (D := (dC, dI)) (ci := 11) (v := .ref h1) (C := RX4) (T := TX4) (N := 2) hx hb hts (by decide +kernel) hown hK hP 0 rfl rfl 0 (by decide) (hts (.fieldLink RX4 13 "Nestprint$Row" "cells" "[I") (by decide +kernel)) (fun _ h9 => h9) rfl dX4_add_12 ?_
  refine va_alen (v := 80) hx hb hK hP 1 0 rfl rfl (by decide) dX4_add_15 ?_
  refine lv_icmp_ge (tgt := 39) hx hb dX4_add_16 (by decide) (fun c2 => absurd c2 (by decide)) (fun c2 => ?_)
  refine lv_aload_n hx hb dX4_add_19 rfl (lv_at hl 0 rfl) ?_
  refine va_get (D := (dC, dI)) (ci := 11) (v := .ref h1) (C := RX4) (T := TX4) (N := 2) hx hb hts (by decide +kernel) hown hK hP 0 rfl rfl 0 (by decide) (hts (.fieldLink RX4 13 "Nestprint$Row" "cells" "[I") (by decide +kernel)) (fun _ h9 => h9) rfl dX4_add_20 ?_
  refine lv_aload_n hx hb dX4_add_23 rfl (lv_at hl 0 rfl) ?_
  refine va_get (D := (dC, dI)) (ci := 11) (v := .int 0) (C := RX4) (T := TX4) (N := 2) hx hb hts (by decide +kernel) hown hK hP 0 rfl rfl 1 (by decide) (hts (.fieldLink RX4 7 "Nestprint$Row" "size" "I") (by decide +kernel)) (fun _ h9 => h9) rfl dX4_add_24 ?_
  refine lv_iload_n hx hb dX4_add_27 rfl (lv_at hl 1 rfl) ?_
  refine va_iast hx hb hK hP hD hS 1 0 rfl rfl (vp_in_nI (n := 0) (by decide) (by decide)) dX4_add_28 (fun H locs hP hD hS => ?_)
  have hP : va_P (dC, dI) vwCl [(h0, .inr (11, [.ref h1, .int 0])), (h1, .inl (cc0, 80, .inl (upd (f0) 0 0)))] H := hP
  have hD : va_D A [(h0, .inr (11, [.ref h1, .int 0])), (h1, .inl (cc0, 80, .inl (upd (f0) 0 0)))] := hD
  refine lv_aload_n hx hb dX4_add_29 rfl (lv_at hl 0 rfl) ?_
  refine lv_dup hx hb dX4_add_30 rfl ?_
  refine va_get (D := (dC, dI)) (ci := 11) (v := .int 0) (C := RX4) (T := TX4) (N := 2) hx hb hts (by decide +kernel) hown hK hP 0 rfl rfl 1 (by decide) (hts (.fieldLink RX4 7 "Nestprint$Row" "size" "I") (by decide +kernel)) (fun _ h9 => h9) rfl dX4_add_31 ?_
  refine lv_iconst (v := 1) hx hb dX4_add_34 (by decide) ?_
  refine lv_iadd hx hb dX4_add_35 ?_
  refine lv_topi (fun y3 ey3 => ?_)
  obtain rfl : y3 = 1 := ey3.trans (by decide)
  refine va_put (D := (dC, dI)) (ci := 11) (v := .int 1) (ty := .int) (C := RX4) (T := TX4) (N := 2) hx hb hts (by decide +kernel) tyX4 tyX4_ok nmX4 hown hK hP hD hS 0 rfl rfl 1 (by decide) (hts (.fieldLink RX4 7 "Nestprint$Row" "size" "I") (by decide +kernel)) (fun _ h9 => h9) rfl (by decide +kernel) rfl rfl (Nat.le_of_ble_eq_true rfl) dX4_add_36 (fun H locs hP hD hS => ?_)
  have hP : va_P (dC, dI) vwCl [(h0, .inr (11, [.ref h1, .int 1])), (h1, .inl (cc0, 80, .inl (upd (f0) 0 0)))] H := hP
  have hD : va_D A [(h0, .inr (11, [.ref h1, .int 1])), (h1, .inl (cc0, 80, .inl (upd (f0) 0 0)))] := hD
  have hP9 := hP.sub (ws' := [(h0, .inr (11, [.ref h1, .int 1])), (h1, .inl (cc0, 80, .inl (upd (f0) 0 0)))]) [0, 1] rfl
  have hD9 := hD.sub (ws' := [(h0, .inr (11, [.ref h1, .int 1])), (h1, .inl (cc0, 80, .inl (upd (f0) 0 0)))]) [0, 1] (by decide) rfl
  have hK9 := hK.sub (tys' := [(cc0, .int)]) [0] rfl
  refine W.widen (k := 0) (n := 0) (Nat.le_of_ble_eq_true rfl) (Nat.le_of_ble_eq_true rfl) ?_
  exact W.vret hx hb hr (fun t ht hW => ⟨⟨(), rfl, trivial, by rw [ht]; exact hP9, va_K.moved hW.alike hK9, hD9⟩, hS.F ht⟩) hS.2.2 dX4_add_39
set_option maxHeartbeats 4000000 in
set_option maxRecDepth 100000 in
theorem kX3_number (l : Launch) (dC : Nat → ClassId) (dI : Nat → Nat → Nat) (g : Nat → Nat) (sz : Nat) (h0 : Nat) (h1 : Nat) (h2 : Nat) (v0 : Value) (v1 : Value) (v2 : Value) (v3 : Value) (v4 : Value) (v5 : Value) (v6 : Value) (v7 : Value) (cc0 : ClassId) (f0 : Nat → Int32) : Met l yX3_number wsX3_number ({ frames := 1, cells := 0, slots := 0, locals := 21 }) (va_Pc [.ref h0, .int 0] (fun U => U.heap.size = sz ∧ va_P (dC, dI) vwCl [(h0, .inr (10, [.ref h1, v0, v1, v2, v3, v4, v5, v6, v7])), (h1, .inr (11, [.ref h2, .int 0])), (h2, .inl (cc0, 80, .inl f0))] U.heap ∧ va_K (dC, dI) vwCl [(cc0, .int)] U ∧ va_D (fun _ => True) [(h0, .inr (10, [.ref h1, v0, v1, v2, v3, v4, v5, v6, v7])), (h1, .inr (11, [.ref h2, .int 0])), (h2, .inl (cc0, 80, .inl f0))] ∧ ns_F g (va_A [(h0, .inr (10, [.ref h1, v0, v1, v2, v3, v4, v5, v6, v7])), (h1, .inr (11, [.ref h2, .int 0])), (h2, .inl (cc0, 80, .inl f0))] sz) U U.heap)) (va_Qi (fun (r : Int32) (_ : Unit) => r = 0) (fun _ t => va_P (dC, dI) vwCl [(h0, .inr (10, [.ref h1, v0, v1, v2, v3, v4, v5, v6, v7])), (h2, .inl (cc0, 80, .inl (upd (f0) 0 0))), (h1, .inr (11, [.ref h2, .int 1]))] t.heap ∧ va_K (dC, dI) vwCl [(cc0, .int)] t ∧ va_D (va_A [(h0, .inr (10, [.ref h1, v0, v1, v2, v3, v4, v5, v6, v7])), (h1, .inr (11, [.ref h2, .int 0])), (h2, .inl (cc0, 80, .inl f0))] sz) [(h0, .inr (10, [.ref h1, v0, v1, v2, v3, v4, v5, v6, v7])), (h2, .inl (cc0, 80, .inl (upd (f0) 0 0))), (h1, .inr (11, [.ref h2, .int 1]))]) (va_A [(h0, .inr (10, [.ref h1, v0, v1, v2, v3, v4, v5, v6, v7])), (h1, .inr (11, [.ref h2, .int 0])), (h2, .inl (cc0, 80, .inl f0))] sz)) 0 0 (va_A [(h0, .inr (10, [.ref h1, v0, v1, v2, v3, v4, v5, v6, v7])), (h1, .inr (11, [.ref h2, .int 0])), (h2, .inl (cc0, 80, .inl f0))] sz) := by
  refine Met.ofW (cc := cX3_number) (maxL := 2) (ret := (some .int)) (by decide) rfl ?_
  intro p e s m args below meth c s₁ B hml hv
  obtain ⟨rfl, hsz, hP, hK, hD0, hF⟩ := hv
  have hx := B.exec
  have hb := B.bytes
  have hr := B.returns
  have hts := atoms_spec (ws := wsX3_number) B.pre
  have hown : s.vm.findClass RX3 = some m.cls := findClass_of_methodNamed B.named
  have hlocks := B.notSynchronized
  subst hsz
  have hD := hD0.self (sz := s.heap.size)
  generalize hAe : va_A [(h0, .inr (10, [.ref h1, v0, v1, v2, v3, v4, v5, v6, v7])), (h1, .inr (11, [.ref h2, .int 0])), (h2, .inl (cc0, 80, .inl f0))] s.heap.size = A at hD hF ⊢
  have hA : ∀ q : Nat, s.heap.size ≤ q → A q := fun q h => by rw [← hAe]; exact Or.inr h
  have hS : va_S A s.heap s.heap [] := va_S.rf
  have hP : va_P (dC, dI) vwCl [(h0, .inr (10, [.ref h1, v0, v1, v2, v3, v4, v5, v6, v7])), (h1, .inr (11, [.ref h2, .int 0])), (h2, .inl (cc0, 80, .inl f0))] s.heap := hP
  have hl := lv_entry ([.ref h0, .int 0]) (n := 2) (Nat.le_of_ble_eq_true rfl)
  rw [lg_entry_eq]
  generalize (lg_sl ([.ref h0, .int 0]) ++ List.replicate (2 - (lg_sl ([.ref h0, .int 0])).length) Slot.unset).toArray = ls at hl ⊢
  have hl : lv_has ls 2 [(0, .ref h0), (1, .int 0)] := hl
  refine lv_aload_n hx hb dX3_number_0 rfl (lv_at hl 0 rfl) ?_
  refine va_get (D := (dC, dI)) (ci := 10) (v := .ref h1) (C := RX3) (T := TX3) (N := 9) hx hb hts (by decide +kernel) hown hK hP 0 rfl rfl 0 (by decide) (hts (.fieldLink RX3 14 "Nestprint$Nodes" "numbers" "LNestprint$Row;") (by decide +kernel)) (fun _ h9 => h9) rfl dX3_number_1 ?_
  refine lv_iload_n hx hb dX3_number_4 rfl (lv_at hl 1 rfl) ?_
  have hPc := hP.sub (ws' := [(h1, .inr (11, [.ref h2, .int 0])), (h2, .inl (cc0, 80, .inl f0))]) [1, 2] rfl
  have hDc := hD.sub (ws' := [(h1, .inr (11, [.ref h2, .int 0])), (h2, .inl (cc0, 80, .inl f0))]) [1, 2] (by decide) rfl
  have hKc := hK.sub (tys' := [(cc0, .int)]) [0] rfl
  have hFc := va_free (wc := [(h1, .inr (11, [.ref h2, .int 0])), (h2, .inl (cc0, 80, .inl f0))]) hD hS hA [1, 2] rfl
  refine va_callv (va_runV (As := [.int 0]) (rest := []) ⟨hx, hb, hml, hown, hts⟩ (kX4_add_4 l dC dI g s.heap.size h1 h2 cc0 f0 ) (cwV 1 hts gX3_number_X4_add rfl rfl rfl (by decide +kernel) ⟨Nat.le_of_ble_eq_true rfl, Nat.le_of_ble_eq_true rfl⟩) ⟨fun a U gg mk q => by obtain ⟨q0, q1, qP, qK, qD, qF⟩ := q; exact ⟨q0, q1, qP, va_K.moved (u := U) (U := U.calling gg mk a) (Vm.Alike.refl U.vm) qK, qD, ns_same qF⟩, va_recv hK hP (ci := 11) (q0 := 1) rfl rfl, fun U hU hW => ⟨rfl, by rw [hU], by rw [hU]; exact hPc, va_K.moved hW.alike hKc, hDc.weaken (fun _ _ _ _ => trivial), ns_call hF hS hFc hU hW⟩⟩ rfl rfl hl.1 rfl (lv_room (Nat.le_of_ble_eq_true rfl)) dX3_number_5 ⟨Nat.le_of_ble_eq_true rfl, Nat.le_of_ble_eq_true rfl⟩) hS (fun q _ h => hFc q h) hFc (fun u t H1 locs ht hvm hw hB hz1 hk1 hS => ?_)
  obtain ⟨hP1, hK1, hD1⟩ := hB
  rw [ht] at hP1
  have hK1 := va_K.moved hvm.symm hK1
  obtain ⟨hP, hD⟩ := va_join (wr := [(h0, .inr (10, [.ref h1, v0, v1, v2, v3, v4, v5, v6, v7]))]) (w1 := [(h1, .inr (11, [.ref h2, .int 1])), (h2, .inl (cc0, 80, .inl (upd (f0) 0 0)))]) hP hD [1, 2] [0] rfl rfl (by decide) (by decide) hk1 hFc hP1 hD1
  have hK := (hK.sub (tys' := []) [] rfl).app hK1
  generalize H1 = H at hP hS ⊢
  have hP : va_P (dC, dI) vwCl [(h0, .inr (10, [.ref h1, v0, v1, v2, v3, v4, v5, v6, v7])), (h1, .inr (11, [.ref h2, .int 1])), (h2, .inl (cc0, 80, .inl (upd (f0) 0 0)))] H := hP
  have hD : va_D A [(h0, .inr (10, [.ref h1, v0, v1, v2, v3, v4, v5, v6, v7])), (h1, .inr (11, [.ref h2, .int 1])), (h2, .inl (cc0, 80, .inl (upd (f0) 0 0)))] := hD
  have hK : va_K (dC, dI) vwCl [(cc0, .int)] s := hK
  refine W.widen (k := 0) (n := 0) (Nat.le_of_ble_eq_true rfl) (Nat.le_of_ble_eq_true rfl) ?_
  refine lv_aload_n hx hb dX3_number_8 rfl (lv_at hl 0 rfl) ?_
  refine va_get (D := (dC, dI)) (ci := 10) (v := .ref h1) (C := RX3) (T := TX3) (N := 9) hx hb hts (by decide +kernel) hown hK hP 0 rfl rfl 0 (by decide) (hts (.fieldLink RX3 14 "Nestprint$Nodes" "numbers" "LNestprint$Row;") (by decide +kernel)) (fun _ h9 => h9) rfl dX3_number_9 ?_
  have hPc := hP.sub (ws' := [(h1, .inr (11, [.ref h2, .int 1]))]) [1] rfl
  have hDc := hD.sub (ws' := [(h1, .inr (11, [.ref h2, .int 1]))]) [1] (by decide) rfl
  have hKc := hK.sub (tys' := []) [] rfl
  have hFc := va_free (wc := [(h1, .inr (11, [.ref h2, .int 1]))]) hD hS hA [1] rfl
  refine va_calli (va_runV (As := []) (rest := []) ⟨hx, hb, hml, hown, hts⟩ (kX4_size_2 l dC dI g H.size h1 (.ref h2) ) (cwV 0 hts gX3_number_X4_size rfl rfl rfl (by decide +kernel) ⟨Nat.le_of_ble_eq_true rfl, Nat.le_of_ble_eq_true rfl⟩) ⟨fun a U gg mk q => by obtain ⟨q0, q1, qP, qK, qD, qF⟩ := q; exact ⟨q0, q1, qP, va_K.moved (u := U) (U := U.calling gg mk a) (Vm.Alike.refl U.vm) qK, qD, ns_same qF⟩, va_recv hK hP (ci := 11) (q0 := 1) rfl rfl, fun U hU hW => ⟨rfl, by rw [hU], by rw [hU]; exact hPc, va_K.moved hW.alike hKc, hDc.weaken (fun _ _ _ _ => trivial), ns_call hF hS hFc hU hW⟩⟩ rfl rfl hl.1 rfl (lv_room (Nat.le_of_ble_eq_true rfl)) dX3_number_12 ⟨Nat.le_of_ble_eq_true rfl, Nat.le_of_ble_eq_true rfl⟩) hS (fun q _ h => hFc q h) hFc (fun r9 u t H1 locs ht hvm hw hB hz1 hk1 hS => ?_)
  obtain rfl := hw
  obtain ⟨hP1, hK1, hD1⟩ := hB
  rw [ht] at hP1
  have hK1 := va_K.moved hvm.symm hK1
  obtain ⟨hP, hD⟩ := va_join (wr := [(h0, .inr (10, [.ref h1, v0, v1, v2, v3, v4, v5, v6, v7])), (h2, .inl (cc0, 80, .inl (upd (f0) 0 0)))]) (w1 := [(h1, .inr (11, [.ref h2, .int 1]))]) hP hD [1] [0, 2] rfl rfl (by decide) (by decide) hk1 hFc hP1 hD1
  have hK := (hK.sub (tys' := [(cc0, .int)]) [0] rfl).app hK1
  generalize H1 = H at hP hS ⊢
  have hP : va_P (dC, dI) vwCl [(h0, .inr (10, [.ref h1, v0, v1, v2, v3, v4, v5, v6, v7])), (h2, .inl (cc0, 80, .inl (upd (f0) 0 0))), (h1, .inr (11, [.ref h2, .int 1]))] H := hP
  have hD : va_D A [(h0, .inr (10, [.ref h1, v0, v1, v2, v3, v4, v5, v6, v7])), (h2, .inl (cc0, 80, .inl (upd (f0) 0 0))), (h1, .inr (11, [.ref h2, .int 1]))] := hD
  have hK : va_K (dC, dI) vwCl [(cc0, .int)] s := hK
  refine W.widen (k := 0) (n := 0) (Nat.le_of_ble_eq_true rfl) (Nat.le_of_ble_eq_true rfl) ?_
  refine lv_iconst (v := 1) hx hb dX3_number_15 (by decide) ?_
  refine lv_isub hx hb dX3_number_16 ?_
  refine lv_topi (fun y1 ey1 => ?_)
  obtain rfl : y1 = 0 := ey1.trans (by decide)
  have hP9 := hP.sub (ws' := [(h0, .inr (10, [.ref h1, v0, v1, v2, v3, v4, v5, v6, v7])), (h2, .inl (cc0, 80, .inl (upd (f0) 0 0))), (h1, .inr (11, [.ref h2, .int 1]))]) [0, 1, 2] rfl
  have hD9 := hD.sub (ws' := [(h0, .inr (10, [.ref h1, v0, v1, v2, v3, v4, v5, v6, v7])), (h2, .inl (cc0, 80, .inl (upd (f0) 0 0))), (h1, .inr (11, [.ref h2, .int 1]))]) [0, 1, 2] (by decide) rfl
  have hK9 := hK.sub (tys' := [(cc0, .int)]) [0] rfl
  refine W.widen (k := 0) (n := 0) (Nat.le_of_ble_eq_true rfl) (Nat.le_of_ble_eq_true rfl) ?_
  exact W.iret (v := 0) hx hb hr (fun t ht hW => ⟨⟨_, (), rfl, rfl, by rw [ht]; exact hP9, va_K.moved hW.alike hK9, hD9⟩, hS.F ht⟩) hS.2.2 dX3_number_17
set_option maxHeartbeats 4000000 in
set_option maxRecDepth 100000 in
theorem kX9_numbered (l : Launch) (dC : Nat → ClassId) (dI : Nat → Nat → Nat) (g : Nat → Nat) (sz : Nat) (h0 : Nat) (h1 : Nat) (h2 : Nat) (h3 : Nat) (v0 : Value) (v1 : Value) (v2 : Value) (v3 : Value) (v4 : Value) (v5 : Value) (v6 : Value) (v7 : Value) (v8 : Value) (v9 : Value) (v10 : Value) (v11 : Value) (v12 : Value) (v13 : Value) (v14 : Value) (v15 : Value) (v16 : Value) (v17 : Value) (v18 : Value) (v19 : Value) (v20 : Value) (v21 : Value) (cc0 : ClassId) (f0 : Nat → Int32) : Met l yX9_numbered wsX9_numbered ({ frames := 2, cells := 0, slots := 0, locals := 42 }) (va_Pc [.ref h0, .int 0] (fun U => U.heap.size = sz ∧ va_P (dC, dI) vwCl [(h0, .inr (16, [.ref h1, v0, v1, v2, v3, v4, v5, v6, v7, v8, v9, v10, v11, v12, v13, .int 0])), (h1, .inr (10, [.ref h2, v14, v15, v16, v17, v18, v19, v20, v21])), (h2, .inr (11, [.ref h3, .int 0])), (h3, .inl (cc0, 80, .inl f0))] U.heap ∧ va_K (dC, dI) vwCl [(cc0, .int)] U ∧ va_D (fun _ => True) [(h0, .inr (16, [.ref h1, v0, v1, v2, v3, v4, v5, v6, v7, v8, v9, v10, v11, v12, v13, .int 0])), (h1, .inr (10, [.ref h2, v14, v15, v16, v17, v18, v19, v20, v21])), (h2, .inr (11, [.ref h3, .int 0])), (h3, .inl (cc0, 80, .inl f0))] ∧ ns_F g (va_A [(h0, .inr (16, [.ref h1, v0, v1, v2, v3, v4, v5, v6, v7, v8, v9, v10, v11, v12, v13, .int 0])), (h1, .inr (10, [.ref h2, v14, v15, v16, v17, v18, v19, v20, v21])), (h2, .inr (11, [.ref h3, .int 0])), (h3, .inl (cc0, 80, .inl f0))] sz) U U.heap)) (va_Qi (fun (r : Int32) (_ : Unit) => r = 0) (fun _ t => va_P (dC, dI) vwCl [(h0, .inr (16, [.ref h1, v0, v1, v2, v3, v4, v5, v6, v7, v8, v9, v10, v11, v12, v13, .int 1])), (h1, .inr (10, [.ref h2, v14, v15, v16, v17, v18, v19, v20, v21])), (h3, .inl (cc0, 80, .inl (upd (f0) 0 0))), (h2, .inr (11, [.ref h3, .int 1]))] t.heap ∧ va_K (dC, dI) vwCl [(cc0, .int)] t ∧ va_D (va_A [(h0, .inr (16, [.ref h1, v0, v1, v2, v3, v4, v5, v6, v7, v8, v9, v10, v11, v12, v13, .int 0])), (h1, .inr (10, [.ref h2, v14, v15, v16, v17, v18, v19, v20, v21])), (h2, .inr (11, [.ref h3, .int 0])), (h3, .inl (cc0, 80, .inl f0))] sz) [(h0, .inr (16, [.ref h1, v0, v1, v2, v3, v4, v5, v6, v7, v8, v9, v10, v11, v12, v13, .int 1])), (h1, .inr (10, [.ref h2, v14, v15, v16, v17, v18, v19, v20, v21])), (h3, .inl (cc0, 80, .inl (upd (f0) 0 0))), (h2, .inr (11, [.ref h3, .int 1]))]) (va_A [(h0, .inr (16, [.ref h1, v0, v1, v2, v3, v4, v5, v6, v7, v8, v9, v10, v11, v12, v13, .int 0])), (h1, .inr (10, [.ref h2, v14, v15, v16, v17, v18, v19, v20, v21])), (h2, .inr (11, [.ref h3, .int 0])), (h3, .inl (cc0, 80, .inl f0))] sz)) 0 0 (va_A [(h0, .inr (16, [.ref h1, v0, v1, v2, v3, v4, v5, v6, v7, v8, v9, v10, v11, v12, v13, .int 0])), (h1, .inr (10, [.ref h2, v14, v15, v16, v17, v18, v19, v20, v21])), (h2, .inr (11, [.ref h3, .int 0])), (h3, .inl (cc0, 80, .inl f0))] sz) := by
  refine Met.ofW (cc := cX9_numbered) (maxL := 2) (ret := (some .int)) (by decide) rfl ?_
  intro p e s m args below meth c s₁ B hml hv
  obtain ⟨rfl, hsz, hP, hK, hD0, hF⟩ := hv
  have hx := B.exec
  have hb := B.bytes
  have hr := B.returns
  have hts := atoms_spec (ws := wsX9_numbered) B.pre
  have hown : s.vm.findClass RX9 = some m.cls := findClass_of_methodNamed B.named
  have hlocks := B.notSynchronized
  subst hsz
  have hD := hD0.self (sz := s.heap.size)
  generalize hAe : va_A [(h0, .inr (16, [.ref h1, v0, v1, v2, v3, v4, v5, v6, v7, v8, v9, v10, v11, v12, v13, .int 0])), (h1, .inr (10, [.ref h2, v14, v15, v16, v17, v18, v19, v20, v21])), (h2, .inr (11, [.ref h3, .int 0])), (h3, .inl (cc0, 80, .inl f0))] s.heap.size = A at hD hF ⊢
  have hA : ∀ q : Nat, s.heap.size ≤ q → A q := fun q h => by rw [← hAe]; exact Or.inr h
  have hS : va_S A s.heap s.heap [] := va_S.rf
  have hP : va_P (dC, dI) vwCl [(h0, .inr (16, [.ref h1, v0, v1, v2, v3, v4, v5, v6, v7, v8, v9, v10, v11, v12, v13, .int 0])), (h1, .inr (10, [.ref h2, v14, v15, v16, v17, v18, v19, v20, v21])), (h2, .inr (11, [.ref h3, .int 0])), (h3, .inl (cc0, 80, .inl f0))] s.heap := hP
  have hl := lv_entry ([.ref h0, .int 0]) (n := 2) (Nat.le_of_ble_eq_true rfl)
  rw [lg_entry_eq]
  generalize (lg_sl ([.ref h0, .int 0]) ++ List.replicate (2 - (lg_sl ([.ref h0, .int 0])).length) Slot.unset).toArray = ls at hl ⊢
  have hl : lv_has ls 2 [(0, .ref h0), (1, .int 0)] := hl
  refine lv_aload_n hx hb dX9_numbered_0 rfl (lv_at hl 0 rfl) ?_
  refine lv_dup hx hb dX9_numbered_1 rfl ?_
  refine va_get (D := (dC, dI)) (ci := 16) (v := .int 0) (C := RX9) (T := TX9) (N := 16) hx hb hts (by decide +kernel) hown hK hP 0 rfl rfl 15 (by decide) (hts (.fieldLink RX9 97 "Nestprint" "made" "I") (by decide +kernel)) (fun _ h9 => h9) rfl dX9_numbered_2 ?_
  refine lv_iconst (v := 1) hx hb dX9_numbered_5 (by decide) ?_
  refine lv_iadd hx hb dX9_numbered_6 ?_
  refine lv_topi (fun y1 ey1 => ?_)
  obtain rfl : y1 = 1 := ey1.trans (by decide)
  refine va_put (D := (dC, dI)) (ci := 16) (v := .int 1) (ty := .int) (C := RX9) (T := TX9) (N := 16) hx hb hts (by decide +kernel) tyX9 tyX9_ok nmX9 hown hK hP hD hS 0 rfl rfl 15 (by decide) (hts (.fieldLink RX9 97 "Nestprint" "made" "I") (by decide +kernel)) (fun _ h9 => h9) rfl (by decide +kernel) rfl rfl (Nat.le_of_ble_eq_true rfl) dX9_numbered_7 (fun H locs hP hD hS => ?_)
  have hP : va_P (dC, dI) vwCl [(h0, .inr (16, [.ref h1, v0, v1, v2, v3, v4, v5, v6, v7, v8, v9, v10, v11, v12, v13, .int 1])), (h1, .inr (10, [.ref h2, v14, v15, v16, v17, v18, v19, v20, v21])), (h2, .inr (11, [.ref h3, .int 0])), (h3, .inl (cc0, 80, .inl f0))] H := hP
  have hD : va_D A [(h0, .inr (16, [.ref h1, v0, v1, v2, v3, v4, v5, v6, v7, v8, v9, v10, v11, v12, v13, .int 1])), (h1, .inr (10, [.ref h2, v14, v15, v16, v17, v18, v19, v20, v21])), (h2, .inr (11, [.ref h3, .int 0])), (h3, .inl (cc0, 80, .inl f0))] := hD
  refine lv_aload_n hx hb dX9_numbered_10 rfl (lv_at hl 0 rfl) ?_
  refine va_get (D := (dC, dI)) (ci := 16) (v := .ref h1) (C := RX9) (T := TX9) (N := 16) hx hb hts (by decide +kernel) hown hK hP 0 rfl rfl 0 (by decide) (hts (.fieldLink RX9 12 "Nestprint" "nodes" "LNestprint$Nodes;") (by decide +kernel)) (fun _ h9 => h9) rfl dX9_numbered_11 ?_
  refine lv_iload_n hx hb dX9_numbered_14 rfl (lv_at hl 1 rfl) ?_
  have hPc := hP.sub (ws' := [(h1, .inr (10, [.ref h2, v14, v15, v16, v17, v18, v19, v20, v21])), (h2, .inr (11, [.ref h3, .int 0])), (h3, .inl (cc0, 80, .inl f0))]) [1, 2, 3] rfl
  have hDc := hD.sub (ws' := [(h1, .inr (10, [.ref h2, v14, v15, v16, v17, v18, v19, v20, v21])), (h2, .inr (11, [.ref h3, .int 0])), (h3, .inl (cc0, 80, .inl f0))]) [1, 2, 3] (by decide) rfl
  have hKc := hK.sub (tys' := [(cc0, .int)]) [0] rfl
  have hFc := va_free (wc := [(h1, .inr (10, [.ref h2, v14, v15, v16, v17, v18, v19, v20, v21])), (h2, .inr (11, [.ref h3, .int 0])), (h3, .inl (cc0, 80, .inl f0))]) hD hS hA [1, 2, 3] rfl
  refine va_calli (va_runV (As := [.int 0]) (rest := []) ⟨hx, hb, hml, hown, hts⟩ (kX3_number l dC dI g H.size h1 h2 h3 v14 v15 v16 v17 v18 v19 v20 v21 cc0 f0 ) (cwV 1 hts gX9_numbered_X3_number rfl rfl rfl (by decide +kernel) ⟨Nat.le_of_ble_eq_true rfl, Nat.le_of_ble_eq_true rfl⟩) ⟨fun a U gg mk q => by obtain ⟨q0, q1, qP, qK, qD, qF⟩ := q; exact ⟨q0, q1, qP, va_K.moved (u := U) (U := U.calling gg mk a) (Vm.Alike.refl U.vm) qK, qD, ns_same qF⟩, va_recv hK hP (ci := 10) (q0 := 1) rfl rfl, fun U hU hW => ⟨rfl, by rw [hU], by rw [hU]; exact hPc, va_K.moved hW.alike hKc, hDc.weaken (fun _ _ _ _ => trivial), ns_call hF hS hFc hU hW⟩⟩ rfl rfl hl.1 rfl (lv_room (Nat.le_of_ble_eq_true rfl)) dX9_numbered_15 ⟨Nat.le_of_ble_eq_true rfl, Nat.le_of_ble_eq_true rfl⟩) hS (fun q _ h => hFc q h) hFc (fun r9 u t H1 locs ht hvm hw hB hz1 hk1 hS => ?_)
  obtain rfl := hw
  obtain ⟨hP1, hK1, hD1⟩ := hB
  rw [ht] at hP1
  have hK1 := va_K.moved hvm.symm hK1
  obtain ⟨hP, hD⟩ := va_join (wr := [(h0, .inr (16, [.ref h1, v0, v1, v2, v3, v4, v5, v6, v7, v8, v9, v10, v11, v12, v13, .int 1]))]) (w1 := [(h1, .inr (10, [.ref h2, v14, v15, v16, v17, v18, v19, v20, v21])), (h3, .inl (cc0, 80, .inl (upd (f0) 0 0))), (h2, .inr (11, [.ref h3, .int 1]))]) hP hD [1, 2, 3] [0] rfl rfl (by decide) (by decide) hk1 hFc hP1 hD1
  have hK := (hK.sub (tys' := []) [] rfl).app hK1
  generalize H1 = H at hP hS ⊢
  have hP : va_P (dC, dI) vwCl [(h0, .inr (16, [.ref h1, v0, v1, v2, v3, v4, v5, v6, v7, v8, v9, v10, v11, v12, v13, .int 1])), (h1, .inr (10, [.ref h2, v14, v15, v16, v17, v18, v19, v20, v21])), (h3, .inl (cc0, 80, .inl (upd (f0) 0 0))), (h2, .inr (11, [.ref h3, .int 1]))] H := hP
  have hD : va_D A [(h0, .inr (16, [.ref h1, v0, v1, v2, v3, v4, v5, v6, v7, v8, v9, v10, v11, v12, v13, .int 1])), (h1, .inr (10, [.ref h2, v14, v15, v16, v17, v18, v19, v20, v21])), (h3, .inl (cc0, 80, .inl (upd (f0) 0 0))), (h2, .inr (11, [.ref h3, .int 1]))] := hD
  have hK : va_K (dC, dI) vwCl [(cc0, .int)] s := hK
  refine W.widen (k := 0) (n := 0) (Nat.le_of_ble_eq_true rfl) (Nat.le_of_ble_eq_true rfl) ?_
  have hP9 := hP.sub (ws' := [(h0, .inr (16, [.ref h1, v0, v1, v2, v3, v4, v5, v6, v7, v8, v9, v10, v11, v12, v13, .int 1])), (h1, .inr (10, [.ref h2, v14, v15, v16, v17, v18, v19, v20, v21])), (h3, .inl (cc0, 80, .inl (upd (f0) 0 0))), (h2, .inr (11, [.ref h3, .int 1]))]) [0, 1, 2, 3] rfl
  have hD9 := hD.sub (ws' := [(h0, .inr (16, [.ref h1, v0, v1, v2, v3, v4, v5, v6, v7, v8, v9, v10, v11, v12, v13, .int 1])), (h1, .inr (10, [.ref h2, v14, v15, v16, v17, v18, v19, v20, v21])), (h3, .inl (cc0, 80, .inl (upd (f0) 0 0))), (h2, .inr (11, [.ref h3, .int 1]))]) [0, 1, 2, 3] (by decide) rfl
  have hK9 := hK.sub (tys' := [(cc0, .int)]) [0] rfl
  refine W.widen (k := 0) (n := 0) (Nat.le_of_ble_eq_true rfl) (Nat.le_of_ble_eq_true rfl) ?_
  exact W.iret (v := 0) hx hb hr (fun t ht hW => ⟨⟨_, (), rfl, rfl, by rw [ht]; exact hP9, va_K.moved hW.alike hK9, hD9⟩, hS.F ht⟩) hS.2.2 dX9_numbered_18
set_option maxHeartbeats 4000000 in
set_option maxRecDepth 100000 in
theorem kX9_word_13 (l : Launch) (dC : Nat → ClassId) (dI : Nat → Nat → Nat) (g : Nat → Nat) (sz : Nat) (h0 : Nat) (x0 : Int32) (h1 : Nat) (h2 : Nat) (h3 : Nat) (h4 : Nat) (h5 : Nat) (h6 : Nat) (h7 : Nat) (h8 : Nat) (h9 : Nat) (h10 : Nat) (h11 : Nat) (h12 : Nat) (h13 : Nat) (h14 : Nat) (h15 : Nat) (h16 : Nat) (h17 : Nat) (v0 : Value) (v1 : Value) (v2 : Value) (v3 : Value) (v4 : Value) (v5 : Value) (v6 : Value) (v7 : Value) (v8 : Value) (v9 : Value) (v10 : Value) (v11 : Value) (v12 : Value) (v13 : Value) (v14 : Value) (cc0 : ClassId) (f0 : Nat → Int32) (cc1 : ClassId) (f1 : Nat → Int32) (cc2 : ClassId) (f2 : Nat → Int32) (cc3 : ClassId) (f3 : Nat → Int32) (cc4 : ClassId) (f4 : Nat → Int32) (cc5 : ClassId) (f5 : Nat → Int32) (cc6 : ClassId) (f6 : Nat → Int32) (cc7 : ClassId) (f7 : Nat → Int32) (ex0 : (0 : Int) ≤ x0.toInt ∧ x0.toInt ≤ (25 : Int)) : Met l yX9_word wsX9_word ({ frames := 3, cells := 0, slots := 0, locals := 68 }) (va_Pc [.ref h0, .int x0, .int 1] (fun U => U.heap.size = sz ∧ va_P (dC, dI) vwCl [(h0, .inr (16, [.ref h1, v0, v1, v2, v3, v4, v5, v6, v7, v8, v9, v10, v11, v12, v13, .int 0])), (h1, .inr (10, [.ref h2, .ref h5, .ref h7, .ref h9, .ref h11, .ref h13, .ref h15, v14, .ref h3])), (h2, .inr (11, [.ref h17, .int 0])), (h3, .inr (11, [.ref h4, .int 0])), (h4, .inl (cc0, 4960, .inl f0)), (h5, .inr (11, [.ref h6, .int 0])), (h6, .inl (cc1, 4960, .inl f1)), (h7, .inr (11, [.ref h8, .int 0])), (h8, .inl (cc2, 4960, .inl f2)), (h9, .inr (11, [.ref h10, .int 0])), (h10, .inl (cc3, 4960, .inl f3)), (h11, .inr (11, [.ref h12, .int 0])), (h12, .inl (cc4, 4960, .inl f4)), (h13, .inr (11, [.ref h14, .int 0])), (h14, .inl (cc5, 4960, .inl f5)), (h15, .inr (11, [.ref h16, .int 0])), (h16, .inl (cc6, 4960, .inl f6)), (h17, .inl (cc7, 80, .inl f7))] U.heap ∧ va_K (dC, dI) vwCl [(cc0, .int), (cc1, .int), (cc2, .int), (cc3, .int), (cc4, .int), (cc5, .int), (cc6, .int), (cc7, .int)] U ∧ va_D (fun _ => True) [(h0, .inr (16, [.ref h1, v0, v1, v2, v3, v4, v5, v6, v7, v8, v9, v10, v11, v12, v13, .int 0])), (h1, .inr (10, [.ref h2, .ref h5, .ref h7, .ref h9, .ref h11, .ref h13, .ref h15, v14, .ref h3])), (h2, .inr (11, [.ref h17, .int 0])), (h3, .inr (11, [.ref h4, .int 0])), (h4, .inl (cc0, 4960, .inl f0)), (h5, .inr (11, [.ref h6, .int 0])), (h6, .inl (cc1, 4960, .inl f1)), (h7, .inr (11, [.ref h8, .int 0])), (h8, .inl (cc2, 4960, .inl f2)), (h9, .inr (11, [.ref h10, .int 0])), (h10, .inl (cc3, 4960, .inl f3)), (h11, .inr (11, [.ref h12, .int 0])), (h12, .inl (cc4, 4960, .inl f4)), (h13, .inr (11, [.ref h14, .int 0])), (h14, .inl (cc5, 4960, .inl f5)), (h15, .inr (11, [.ref h16, .int 0])), (h16, .inl (cc6, 4960, .inl f6)), (h17, .inl (cc7, 80, .inl f7))] ∧ ns_F g (va_A [(h0, .inr (16, [.ref h1, v0, v1, v2, v3, v4, v5, v6, v7, v8, v9, v10, v11, v12, v13, .int 0])), (h1, .inr (10, [.ref h2, .ref h5, .ref h7, .ref h9, .ref h11, .ref h13, .ref h15, v14, .ref h3])), (h2, .inr (11, [.ref h17, .int 0])), (h3, .inr (11, [.ref h4, .int 0])), (h4, .inl (cc0, 4960, .inl f0)), (h5, .inr (11, [.ref h6, .int 0])), (h6, .inl (cc1, 4960, .inl f1)), (h7, .inr (11, [.ref h8, .int 0])), (h8, .inl (cc2, 4960, .inl f2)), (h9, .inr (11, [.ref h10, .int 0])), (h10, .inl (cc3, 4960, .inl f3)), (h11, .inr (11, [.ref h12, .int 0])), (h12, .inl (cc4, 4960, .inl f4)), (h13, .inr (11, [.ref h14, .int 0])), (h14, .inl (cc5, 4960, .inl f5)), (h15, .inr (11, [.ref h16, .int 0])), (h16, .inl (cc6, 4960, .inl f6)), (h17, .inl (cc7, 80, .inl f7))] sz) U U.heap)) (va_Qi (fun (r : Int32) (_ : Unit) => r = 0) (fun _ t => va_P (dC, dI) vwCl [(h4, .inl (cc0, 4960, .inl (upd (f0) 0 (97 + x0)))), (h3, .inr (11, [.ref h4, .int 1])), (h6, .inl (cc1, 4960, .inl (upd (f1) 0 0))), (h7, .inr (11, [.ref h8, .int 1])), (h8, .inl (cc2, 4960, .inl (upd (f2) 0 0))), (h9, .inr (11, [.ref h10, .int 1])), (h10, .inl (cc3, 4960, .inl (upd (f3) 0 1))), (h11, .inr (11, [.ref h12, .int 1])), (h12, .inl (cc4, 4960, .inl (upd (f4) 0 0))), (h13, .inr (11, [.ref h14, .int 1])), (h14, .inl (cc5, 4960, .inl (upd (f5) 0 1))), (h15, .inr (11, [.ref h16, .int 1])), (h16, .inl (cc6, 4960, .inl (upd (f6) 0 1))), (h5, .inr (11, [.ref h6, .int 1])), (h0, .inr (16, [.ref h1, v0, v1, v2, v3, v4, v5, v6, v7, v8, v9, v10, v11, v12, v13, .int 1])), (h1, .inr (10, [.ref h2, .ref h5, .ref h7, .ref h9, .ref h11, .ref h13, .ref h15, v14, .ref h3])), (h17, .inl (cc7, 80, .inl (upd (f7) 0 0))), (h2, .inr (11, [.ref h17, .int 1]))] t.heap ∧ va_K (dC, dI) vwCl [(cc0, .int), (cc1, .int), (cc2, .int), (cc3, .int), (cc4, .int), (cc5, .int), (cc6, .int), (cc7, .int)] t ∧ va_D (va_A [(h0, .inr (16, [.ref h1, v0, v1, v2, v3, v4, v5, v6, v7, v8, v9, v10, v11, v12, v13, .int 0])), (h1, .inr (10, [.ref h2, .ref h5, .ref h7, .ref h9, .ref h11, .ref h13, .ref h15, v14, .ref h3])), (h2, .inr (11, [.ref h17, .int 0])), (h3, .inr (11, [.ref h4, .int 0])), (h4, .inl (cc0, 4960, .inl f0)), (h5, .inr (11, [.ref h6, .int 0])), (h6, .inl (cc1, 4960, .inl f1)), (h7, .inr (11, [.ref h8, .int 0])), (h8, .inl (cc2, 4960, .inl f2)), (h9, .inr (11, [.ref h10, .int 0])), (h10, .inl (cc3, 4960, .inl f3)), (h11, .inr (11, [.ref h12, .int 0])), (h12, .inl (cc4, 4960, .inl f4)), (h13, .inr (11, [.ref h14, .int 0])), (h14, .inl (cc5, 4960, .inl f5)), (h15, .inr (11, [.ref h16, .int 0])), (h16, .inl (cc6, 4960, .inl f6)), (h17, .inl (cc7, 80, .inl f7))] sz) [(h4, .inl (cc0, 4960, .inl (upd (f0) 0 (97 + x0)))), (h3, .inr (11, [.ref h4, .int 1])), (h6, .inl (cc1, 4960, .inl (upd (f1) 0 0))), (h7, .inr (11, [.ref h8, .int 1])), (h8, .inl (cc2, 4960, .inl (upd (f2) 0 0))), (h9, .inr (11, [.ref h10, .int 1])), (h10, .inl (cc3, 4960, .inl (upd (f3) 0 1))), (h11, .inr (11, [.ref h12, .int 1])), (h12, .inl (cc4, 4960, .inl (upd (f4) 0 0))), (h13, .inr (11, [.ref h14, .int 1])), (h14, .inl (cc5, 4960, .inl (upd (f5) 0 1))), (h15, .inr (11, [.ref h16, .int 1])), (h16, .inl (cc6, 4960, .inl (upd (f6) 0 1))), (h5, .inr (11, [.ref h6, .int 1])), (h0, .inr (16, [.ref h1, v0, v1, v2, v3, v4, v5, v6, v7, v8, v9, v10, v11, v12, v13, .int 1])), (h1, .inr (10, [.ref h2, .ref h5, .ref h7, .ref h9, .ref h11, .ref h13, .ref h15, v14, .ref h3])), (h17, .inl (cc7, 80, .inl (upd (f7) 0 0))), (h2, .inr (11, [.ref h17, .int 1]))]) (va_A [(h0, .inr (16, [.ref h1, v0, v1, v2, v3, v4, v5, v6, v7, v8, v9, v10, v11, v12, v13, .int 0])), (h1, .inr (10, [.ref h2, .ref h5, .ref h7, .ref h9, .ref h11, .ref h13, .ref h15, v14, .ref h3])), (h2, .inr (11, [.ref h17, .int 0])), (h3, .inr (11, [.ref h4, .int 0])), (h4, .inl (cc0, 4960, .inl f0)), (h5, .inr (11, [.ref h6, .int 0])), (h6, .inl (cc1, 4960, .inl f1)), (h7, .inr (11, [.ref h8, .int 0])), (h8, .inl (cc2, 4960, .inl f2)), (h9, .inr (11, [.ref h10, .int 0])), (h10, .inl (cc3, 4960, .inl f3)), (h11, .inr (11, [.ref h12, .int 0])), (h12, .inl (cc4, 4960, .inl f4)), (h13, .inr (11, [.ref h14, .int 0])), (h14, .inl (cc5, 4960, .inl f5)), (h15, .inr (11, [.ref h16, .int 0])), (h16, .inl (cc6, 4960, .inl f6)), (h17, .inl (cc7, 80, .inl f7))] sz)) 0 0 (va_A [(h0, .inr (16, [.ref h1, v0, v1, v2, v3, v4, v5, v6, v7, v8, v9, v10, v11, v12, v13, .int 0])), (h1, .inr (10, [.ref h2, .ref h5, .ref h7, .ref h9, .ref h11, .ref h13, .ref h15, v14, .ref h3])), (h2, .inr (11, [.ref h17, .int 0])), (h3, .inr (11, [.ref h4, .int 0])), (h4, .inl (cc0, 4960, .inl f0)), (h5, .inr (11, [.ref h6, .int 0])), (h6, .inl (cc1, 4960, .inl f1)), (h7, .inr (11, [.ref h8, .int 0])), (h8, .inl (cc2, 4960, .inl f2)), (h9, .inr (11, [.ref h10, .int 0])), (h10, .inl (cc3, 4960, .inl f3)), (h11, .inr (11, [.ref h12, .int 0])), (h12, .inl (cc4, 4960, .inl f4)), (h13, .inr (11, [.ref h14, .int 0])), (h14, .inl (cc5, 4960, .inl f5)), (h15, .inr (11, [.ref h16, .int 0])), (h16, .inl (cc6, 4960, .inl f6)), (h17, .inl (cc7, 80, .inl f7))] sz) := by
  refine Met.ofW (cc := cX9_word) (maxL := 4) (ret := (some .int)) (by decide) rfl ?_
  intro p e s m args below meth c s₁ B hml hv
  obtain ⟨rfl, hsz, hP, hK, hD0, hF⟩ := hv
  have hx := B.exec
  have hb := B.bytes
  have hr := B.returns
  have hts := atoms_spec (ws := wsX9_word) B.pre
  have hown : s.vm.findClass RX9 = some m.cls := findClass_of_methodNamed B.named
  have hlocks := B.notSynchronized
  subst hsz
  have hD := hD0.self (sz := s.heap.size)
  generalize hAe : va_A [(h0, .inr (16, [.ref h1, v0, v1, v2, v3, v4, v5, v6, v7, v8, v9, v10, v11, v12, v13, .int 0])), (h1, .inr (10, [.ref h2, .ref h5, .ref h7, .ref h9, .ref h11, .ref h13, .ref h15, v14, .ref h3])), (h2, .inr (11, [.ref h17, .int 0])), (h3, .inr (11, [.ref h4, .int 0])), (h4, .inl (cc0, 4960, .inl f0)), (h5, .inr (11, [.ref h6, .int 0])), (h6, .inl (cc1, 4960, .inl f1)), (h7, .inr (11, [.ref h8, .int 0])), (h8, .inl (cc2, 4960, .inl f2)), (h9, .inr (11, [.ref h10, .int 0])), (h10, .inl (cc3, 4960, .inl f3)), (h11, .inr (11, [.ref h12, .int 0])), (h12, .inl (cc4, 4960, .inl f4)), (h13, .inr (11, [.ref h14, .int 0])), (h14, .inl (cc5, 4960, .inl f5)), (h15, .inr (11, [.ref h16, .int 0])), (h16, .inl (cc6, 4960, .inl f6)), (h17, .inl (cc7, 80, .inl f7))] s.heap.size = A at hD hF ⊢
  have hA : ∀ q : Nat, s.heap.size ≤ q → A q := fun q h => by rw [← hAe]; exact Or.inr h
  have hS : va_S A s.heap s.heap [] := va_S.rf
  have hP : va_P (dC, dI) vwCl [(h0, .inr (16, [.ref h1, v0, v1, v2, v3, v4, v5, v6, v7, v8, v9, v10, v11, v12, v13, .int 0])), (h1, .inr (10, [.ref h2, .ref h5, .ref h7, .ref h9, .ref h11, .ref h13, .ref h15, v14, .ref h3])), (h2, .inr (11, [.ref h17, .int 0])), (h3, .inr (11, [.ref h4, .int 0])), (h4, .inl (cc0, 4960, .inl f0)), (h5, .inr (11, [.ref h6, .int 0])), (h6, .inl (cc1, 4960, .inl f1)), (h7, .inr (11, [.ref h8, .int 0])), (h8, .inl (cc2, 4960, .inl f2)), (h9, .inr (11, [.ref h10, .int 0])), (h10, .inl (cc3, 4960, .inl f3)), (h11, .inr (11, [.ref h12, .int 0])), (h12, .inl (cc4, 4960, .inl f4)), (h13, .inr (11, [.ref h14, .int 0])), (h14, .inl (cc5, 4960, .inl f5)), (h15, .inr (11, [.ref h16, .int 0])), (h16, .inl (cc6, 4960, .inl f6)), (h17, .inl (cc7, 80, .inl f7))] s.heap := hP
  have hl := lv_entry ([.ref h0, .int x0, .int 1]) (n := 4) (Nat.le_of_ble_eq_true rfl)
  rw [lg_entry_eq]
  generalize (lg_sl ([.ref h0, .int x0, .int 1]) ++ List.replicate (4 - (lg_sl ([.ref h0, .int x0, .int 1])).length) Slot.unset).toArray = ls at hl ⊢
  have hl : lv_has ls 4 [(0, .ref h0), (1, .int x0), (2, .int 1)] := hl
  refine lv_iload_n hx hb dX9_word_0 rfl (lv_at hl 1 rfl) ?_
  refine lv_if_lt (tgt := 10) hx hb dX9_word_1 (by decide) (fun c1 => absurd c1 (fun z => absurd (Int32.lt_iff_toInt_lt.mp z : x0.toInt < (0 : Int)) (by omega))) (fun c1 => ?_)
  refine lv_iload_n hx hb dX9_word_4 rfl (lv_at hl 1 rfl) ?_
  refine lv_bipush (v := 25) hx hb dX9_word_5 (by decide) ?_
  refine lv_icmp_le (tgt := 20) hx hb dX9_word_7 (by decide) (fun c2 => ?_) (fun c2 => absurd (Int32.le_iff_toInt_le.mpr (show x0.toInt ≤ (25 : Int) by omega)) c2)
  refine lv_iload_n hx hb dX9_word_20 rfl (lv_at hl 2 rfl) ?_
  refine lv_iconst (v := 1) hx hb dX9_word_21 (by decide) ?_
  refine lv_icmp_lt (tgt := 31) hx hb dX9_word_22 (by decide) (fun c3 => absurd c3 (by decide)) (fun c3 => ?_)
  refine lv_iload_n hx hb dX9_word_25 rfl (lv_at hl 2 rfl) ?_
  refine lv_bipush (v := 9) hx hb dX9_word_26 (by decide) ?_
  refine lv_icmp_le (tgt := 41) hx hb dX9_word_28 (by decide) (fun c4 => ?_) (fun c4 => absurd (by decide) c4)
  refine lv_aload_n hx hb dX9_word_41 rfl (lv_at hl 0 rfl) ?_
  have hPc := hP.sub (ws' := [(h0, .inr (16, [.ref h1, v0, v1, v2, v3, v4, v5, v6, v7, v8, v9, v10, v11, v12, v13, .int 0])), (h1, .inr (10, [.ref h2, .ref h5, .ref h7, .ref h9, .ref h11, .ref h13, .ref h15, v14, .ref h3])), (h2, .inr (11, [.ref h17, .int 0]))]) [0, 1, 2] rfl
  have hDc := hD.sub (ws' := [(h0, .inr (16, [.ref h1, v0, v1, v2, v3, v4, v5, v6, v7, v8, v9, v10, v11, v12, v13, .int 0])), (h1, .inr (10, [.ref h2, .ref h5, .ref h7, .ref h9, .ref h11, .ref h13, .ref h15, v14, .ref h3])), (h2, .inr (11, [.ref h17, .int 0]))]) [0, 1, 2] (by decide) rfl
  have hKc := hK.sub (tys' := []) [] rfl
  have hFc := va_free (wc := [(h0, .inr (16, [.ref h1, v0, v1, v2, v3, v4, v5, v6, v7, v8, v9, v10, v11, v12, v13, .int 0])), (h1, .inr (10, [.ref h2, .ref h5, .ref h7, .ref h9, .ref h11, .ref h13, .ref h15, v14, .ref h3])), (h2, .inr (11, [.ref h17, .int 0]))]) hD hS hA [0, 1, 2] rfl
  refine va_callv (va_runV (As := []) (rest := []) ⟨hx, hb, hml, hown, hts⟩ (kX9_needNumber l dC dI g s.heap.size h0 h1 h2 v0 v1 v2 v3 v4 v5 v6 v7 v8 v9 v10 v11 v12 v13 (.int 0) (.ref h5) (.ref h7) (.ref h9) (.ref h11) (.ref h13) (.ref h15) v14 (.ref h3) (.ref h17) ) (cwV 0 hts gX9_word_X9_needNumber rfl rfl rfl (by decide +kernel) ⟨Nat.le_of_ble_eq_true rfl, Nat.le_of_ble_eq_true rfl⟩) ⟨fun a U gg mk q => by obtain ⟨q0, q1, qP, qK, qD, qF⟩ := q; exact ⟨q0, q1, qP, va_K.moved (u := U) (U := U.calling gg mk a) (Vm.Alike.refl U.vm) qK, qD, ns_same qF⟩, va_recv hK hP (ci := 16) (q0 := 0) rfl rfl, fun U hU hW => ⟨rfl, by rw [hU], by rw [hU]; exact hPc, va_K.moved hW.alike hKc, hDc.weaken (fun _ _ _ _ => trivial), ns_call hF hS hFc hU hW⟩⟩ rfl rfl hl.1 rfl (lv_room (Nat.le_of_ble_eq_true rfl)) dX9_word_42 ⟨Nat.le_of_ble_eq_true rfl, Nat.le_of_ble_eq_true rfl⟩) hS (fun q _ h => hFc q h) hFc (fun u t H1 locs ht hvm hw hB hz1 hk1 hS => ?_)
  obtain ⟨hP1, hK1, hD1⟩ := hB
  rw [ht] at hP1
  have hK1 := va_K.moved hvm.symm hK1
  obtain ⟨hP, hD⟩ := va_join (wr := [(h3, .inr (11, [.ref h4, .int 0])), (h4, .inl (cc0, 4960, .inl f0)), (h5, .inr (11, [.ref h6, .int 0])), (h6, .inl (cc1, 4960, .inl f1)), (h7, .inr (11, [.ref h8, .int 0])), (h8, .inl (cc2, 4960, .inl f2)), (h9, .inr (11, [.ref h10, .int 0])), (h10, .inl (cc3, 4960, .inl f3)), (h11, .inr (11, [.ref h12, .int 0])), (h12, .inl (cc4, 4960, .inl f4)), (h13, .inr (11, [.ref h14, .int 0])), (h14, .inl (cc5, 4960, .inl f5)), (h15, .inr (11, [.ref h16, .int 0])), (h16, .inl (cc6, 4960, .inl f6)), (h17, .inl (cc7, 80, .inl f7))]) (w1 := [(h0, .inr (16, [.ref h1, v0, v1, v2, v3, v4, v5, v6, v7, v8, v9, v10, v11, v12, v13, .int 0])), (h1, .inr (10, [.ref h2, .ref h5, .ref h7, .ref h9, .ref h11, .ref h13, .ref h15, v14, .ref h3])), (h2, .inr (11, [.ref h17, .int 0]))]) hP hD [0, 1, 2] [3, 4, 5, 6, 7, 8, 9, 10, 11, 12, 13, 14, 15, 16, 17] rfl rfl (by decide) (by decide) hk1 hFc hP1 hD1
  have hK := (hK.sub (tys' := [(cc0, .int), (cc1, .int), (cc2, .int), (cc3, .int), (cc4, .int), (cc5, .int), (cc6, .int), (cc7, .int)]) [0, 1, 2, 3, 4, 5, 6, 7] rfl).app hK1
  generalize H1 = H at hP hS ⊢
  have hP : va_P (dC, dI) vwCl [(h3, .inr (11, [.ref h4, .int 0])), (h4, .inl (cc0, 4960, .inl f0)), (h5, .inr (11, [.ref h6, .int 0])), (h6, .inl (cc1, 4960, .inl f1)), (h7, .inr (11, [.ref h8, .int 0])), (h8, .inl (cc2, 4960, .inl f2)), (h9, .inr (11, [.ref h10, .int 0])), (h10, .inl (cc3, 4960, .inl f3)), (h11, .inr (11, [.ref h12, .int 0])), (h12, .inl (cc4, 4960, .inl f4)), (h13, .inr (11, [.ref h14, .int 0])), (h14, .inl (cc5, 4960, .inl f5)), (h15, .inr (11, [.ref h16, .int 0])), (h16, .inl (cc6, 4960, .inl f6)), (h17, .inl (cc7, 80, .inl f7)), (h0, .inr (16, [.ref h1, v0, v1, v2, v3, v4, v5, v6, v7, v8, v9, v10, v11, v12, v13, .int 0])), (h1, .inr (10, [.ref h2, .ref h5, .ref h7, .ref h9, .ref h11, .ref h13, .ref h15, v14, .ref h3])), (h2, .inr (11, [.ref h17, .int 0]))] H := hP
  have hD : va_D A [(h3, .inr (11, [.ref h4, .int 0])), (h4, .inl (cc0, 4960, .inl f0)), (h5, .inr (11, [.ref h6, .int 0])), (h6, .inl (cc1, 4960, .inl f1)), (h7, .inr (11, [.ref h8, .int 0])), (h8, .inl (cc2, 4960, .inl f2)), (h9, .inr (11, [.ref h10, .int 0])), (h10, .inl (cc3, 4960, .inl f3)), (h11, .inr (11, [.ref h12, .int 0])), (h12, .inl (cc4, 4960, .inl f4)), (h13, .inr (11, [.ref h14, .int 0])), (h14, .inl (cc5, 4960, .inl f5)), (h15, .inr (11, [.ref h16, .int 0])), (h16, .inl (cc6, 4960, .inl f6)), (h17, .inl (cc7, 80, .inl f7)), (h0, .inr (16, [.ref h1, v0, v1, v2, v3, v4, v5, v6, v7, v8, v9, v10, v11, v12, v13, .int 0])), (h1, .inr (10, [.ref h2, .ref h5, .ref h7, .ref h9, .ref h11, .ref h13, .ref h15, v14, .ref h3])), (h2, .inr (11, [.ref h17, .int 0]))] := hD
  have hK : va_K (dC, dI) vwCl [(cc0, .int), (cc1, .int), (cc2, .int), (cc3, .int), (cc4, .int), (cc5, .int), (cc6, .int), (cc7, .int)] s := hK
  refine W.widen (k := 0) (n := 0) (Nat.le_of_ble_eq_true rfl) (Nat.le_of_ble_eq_true rfl) ?_
  refine lv_iconst (v := 0) hx hb dX9_word_45 (by decide) ?_
  refine lv_istore_n (lv' := [(3, .int 0), (0, .ref h0), (1, .int x0), (2, .int 1)]) hx hb dX9_word_46 rfl hl (by decide) rfl (fun ls hl => ?_)
  refine lv_iload_n hx hb dX9_word_47 rfl (lv_at hl 0 rfl) ?_
  refine lv_iload_n hx hb dX9_word_48 rfl (lv_at hl 3 rfl) ?_
  refine lv_icmp_ge (tgt := 69) hx hb dX9_word_49 (by decide) (fun c5 => absurd c5 (by decide)) (fun c5 => ?_)
  refine lv_aload_n hx hb dX9_word_52 rfl (lv_at hl 1 rfl) ?_
  refine va_get (D := (dC, dI)) (ci := 16) (v := .ref h1) (C := RX9) (T := TX9) (N := 16) hx hb hts (by decide +kernel) hown hK hP 15 rfl rfl 0 (by decide) (hts (.fieldLink RX9 12 "Nestprint" "nodes" "LNestprint$Nodes;") (by decide +kernel)) (fun _ h9 => h9) rfl dX9_word_53 ?_
  refine lv_bipush (v := 97) hx hb dX9_word_56 (by decide) ?_
  refine lv_iload_n hx hb dX9_word_58 rfl (lv_at hl 2 rfl) ?_
  refine lv_iadd hx hb dX9_word_59 ?_
  have hPc := hP.sub (ws' := [(h1, .inr (10, [.ref h2, .ref h5, .ref h7, .ref h9, .ref h11, .ref h13, .ref h15, v14, .ref h3])), (h3, .inr (11, [.ref h4, .int 0])), (h4, .inl (cc0, 4960, .inl f0))]) [16, 0, 1] rfl
  have hDc := hD.sub (ws' := [(h1, .inr (10, [.ref h2, .ref h5, .ref h7, .ref h9, .ref h11, .ref h13, .ref h15, v14, .ref h3])), (h3, .inr (11, [.ref h4, .int 0])), (h4, .inl (cc0, 4960, .inl f0))]) [16, 0, 1] (by decide) rfl
  have hKc := hK.sub (tys' := [(cc0, .int)]) [0] rfl
  have hFc := va_free (wc := [(h1, .inr (10, [.ref h2, .ref h5, .ref h7, .ref h9, .ref h11, .ref h13, .ref h15, v14, .ref h3])), (h3, .inr (11, [.ref h4, .int 0])), (h4, .inl (cc0, 4960, .inl f0))]) hD hS hA [16, 0, 1] rfl
  refine va_callv (va_runV (As := [.int (97 + x0)]) (rest := []) ⟨hx, hb, hml, hown, hts⟩ (kX3_addSign l dC dI g H.size h1 (97 + x0) h3 h4 (.ref h2) (.ref h5) (.ref h7) (.ref h9) (.ref h11) (.ref h13) (.ref h15) v14 cc0 f0 ) (cwV 1 hts gX9_word_X3_addSign rfl rfl rfl (by decide +kernel) ⟨Nat.le_of_ble_eq_true rfl, Nat.le_of_ble_eq_true rfl⟩) ⟨fun a U gg mk q => by obtain ⟨q0, q1, qP, qK, qD, qF⟩ := q; exact ⟨q0, q1, qP, va_K.moved (u := U) (U := U.calling gg mk a) (Vm.Alike.refl U.vm) qK, qD, ns_same qF⟩, va_recv hK hP (ci := 10) (q0 := 16) rfl rfl, fun U hU hW => ⟨rfl, by rw [hU], by rw [hU]; exact hPc, va_K.moved hW.alike hKc, hDc.weaken (fun _ _ _ _ => trivial), ns_call hF hS hFc hU hW⟩⟩ rfl rfl hl.1 rfl (lv_room (Nat.le_of_ble_eq_true rfl)) dX9_word_60 ⟨Nat.le_of_ble_eq_true rfl, Nat.le_of_ble_eq_true rfl⟩) hS (fun q _ h => hFc q h) hFc (fun u t H1 locs ht hvm hw hB hz1 hk1 hS => ?_)
  obtain ⟨hP1, hK1, hD1⟩ := hB
  rw [ht] at hP1
  have hK1 := va_K.moved hvm.symm hK1
  obtain ⟨hP, hD⟩ := va_join (wr := [(h5, .inr (11, [.ref h6, .int 0])), (h6, .inl (cc1, 4960, .inl f1)), (h7, .inr (11, [.ref h8, .int 0])), (h8, .inl (cc2, 4960, .inl f2)), (h9, .inr (11, [.ref h10, .int 0])), (h10, .inl (cc3, 4960, .inl f3)), (h11, .inr (11, [.ref h12, .int 0])), (h12, .inl (cc4, 4960, .inl f4)), (h13, .inr (11, [.ref h14, .int 0])), (h14, .inl (cc5, 4960, .inl f5)), (h15, .inr (11, [.ref h16, .int 0])), (h16, .inl (cc6, 4960, .inl f6)), (h17, .inl (cc7, 80, .inl f7)), (h0, .inr (16, [.ref h1, v0, v1, v2, v3, v4, v5, v6, v7, v8, v9, v10, v11, v12, v13, .int 0])), (h2, .inr (11, [.ref h17, .int 0]))]) (w1 := [(h1, .inr (10, [.ref h2, .ref h5, .ref h7, .ref h9, .ref h11, .ref h13, .ref h15, v14, .ref h3])), (h3, .inr (11, [.ref h4, .int 1])), (h4, .inl (cc0, 4960, .inl (upd (f0) 0 (97 + x0))))]) hP hD [16, 0, 1] [2, 3, 4, 5, 6, 7, 8, 9, 10, 11, 12, 13, 14, 15, 17] rfl rfl (by decide) (by decide) hk1 hFc hP1 hD1
  have hK := (hK.sub (tys' := [(cc1, .int), (cc2, .int), (cc3, .int), (cc4, .int), (cc5, .int), (cc6, .int), (cc7, .int)]) [1, 2, 3, 4, 5, 6, 7] rfl).app hK1
  generalize H1 = H at hP hS ⊢
  have hP : va_P (dC, dI) vwCl [(h5, .inr (11, [.ref h6, .int 0])), (h6, .inl (cc1, 4960, .inl f1)), (h7, .inr (11, [.ref h8, .int 0])), (h8, .inl (cc2, 4960, .inl f2)), (h9, .inr (11, [.ref h10, .int 0])), (h10, .inl (cc3, 4960, .inl f3)), (h11, .inr (11, [.ref h12, .int 0])), (h12, .inl (cc4, 4960, .inl f4)), (h13, .inr (11, [.ref h14, .int 0])), (h14, .inl (cc5, 4960, .inl f5)), (h15, .inr (11, [.ref h16, .int 0])), (h16, .inl (cc6, 4960, .inl f6)), (h17, .inl (cc7, 80, .inl f7)), (h0, .inr (16, [.ref h1, v0, v1, v2, v3, v4, v5, v6, v7, v8, v9, v10, v11, v12, v13, .int 0])), (h2, .inr (11, [.ref h17, .int 0])), (h1, .inr (10, [.ref h2, .ref h5, .ref h7, .ref h9, .ref h11, .ref h13, .ref h15, v14, .ref h3])), (h3, .inr (11, [.ref h4, .int 1])), (h4, .inl (cc0, 4960, .inl (upd (f0) 0 (97 + x0))))] H := hP
  have hD : va_D A [(h5, .inr (11, [.ref h6, .int 0])), (h6, .inl (cc1, 4960, .inl f1)), (h7, .inr (11, [.ref h8, .int 0])), (h8, .inl (cc2, 4960, .inl f2)), (h9, .inr (11, [.ref h10, .int 0])), (h10, .inl (cc3, 4960, .inl f3)), (h11, .inr (11, [.ref h12, .int 0])), (h12, .inl (cc4, 4960, .inl f4)), (h13, .inr (11, [.ref h14, .int 0])), (h14, .inl (cc5, 4960, .inl f5)), (h15, .inr (11, [.ref h16, .int 0])), (h16, .inl (cc6, 4960, .inl f6)), (h17, .inl (cc7, 80, .inl f7)), (h0, .inr (16, [.ref h1, v0, v1, v2, v3, v4, v5, v6, v7, v8, v9, v10, v11, v12, v13, .int 0])), (h2, .inr (11, [.ref h17, .int 0])), (h1, .inr (10, [.ref h2, .ref h5, .ref h7, .ref h9, .ref h11, .ref h13, .ref h15, v14, .ref h3])), (h3, .inr (11, [.ref h4, .int 1])), (h4, .inl (cc0, 4960, .inl (upd (f0) 0 (97 + x0))))] := hD
  have hK : va_K (dC, dI) vwCl [(cc1, .int), (cc2, .int), (cc3, .int), (cc4, .int), (cc5, .int), (cc6, .int), (cc7, .int), (cc0, .int)] s := hK
  refine W.widen (k := 0) (n := 0) (Nat.le_of_ble_eq_true rfl) (Nat.le_of_ble_eq_true rfl) ?_
  refine lv_iinc (v := 1) (lv' := [(3, .int 1), (0, .ref h0), (1, .int x0), (2, .int 1)]) hx hb dX9_word_63 hl (k := 0) rfl (by decide) (by decide) rfl (fun ls hl => ?_)
  refine lv_goto (tgt := 47) hx hb dX9_word_66 (by decide) ?_
  refine lv_iload_n hx hb dX9_word_47 rfl (lv_at hl 0 rfl) ?_
  refine lv_iload_n hx hb dX9_word_48 rfl (lv_at hl 3 rfl) ?_
  refine lv_icmp_ge (tgt := 69) hx hb dX9_word_49 (by decide) (fun c6 => ?_) (fun c6 => absurd (by decide) c6)
  refine lv_aload_n hx hb dX9_word_69 rfl (lv_at hl 1 rfl) ?_
  refine lv_aload_n hx hb dX9_word_70 rfl (lv_at hl 1 rfl) ?_
  refine va_get (D := (dC, dI)) (ci := 16) (v := .ref h1) (C := RX9) (T := TX9) (N := 16) hx hb hts (by decide +kernel) hown hK hP 13 rfl rfl 0 (by decide) (hts (.fieldLink RX9 12 "Nestprint" "nodes" "LNestprint$Nodes;") (by decide +kernel)) (fun _ h9 => h9) rfl dX9_word_71 ?_
  refine lv_iload_n hx hb dX9_word_74 rfl (lv_at hl 3 rfl) ?_
  have hPc := hP.sub (ws' := [(h1, .inr (10, [.ref h2, .ref h5, .ref h7, .ref h9, .ref h11, .ref h13, .ref h15, v14, .ref h3])), (h3, .inr (11, [.ref h4, .int 1])), (h5, .inr (11, [.ref h6, .int 0])), (h6, .inl (cc1, 4960, .inl f1)), (h7, .inr (11, [.ref h8, .int 0])), (h8, .inl (cc2, 4960, .inl f2)), (h9, .inr (11, [.ref h10, .int 0])), (h10, .inl (cc3, 4960, .inl f3)), (h11, .inr (11, [.ref h12, .int 0])), (h12, .inl (cc4, 4960, .inl f4)), (h13, .inr (11, [.ref h14, .int 0])), (h14, .inl (cc5, 4960, .inl f5)), (h15, .inr (11, [.ref h16, .int 0])), (h16, .inl (cc6, 4960, .inl f6))]) [15, 16, 0, 1, 2, 3, 4, 5, 6, 7, 8, 9, 10, 11] rfl
  have hDc := hD.sub (ws' := [(h1, .inr (10, [.ref h2, .ref h5, .ref h7, .ref h9, .ref h11, .ref h13, .ref h15, v14, .ref h3])), (h3, .inr (11, [.ref h4, .int 1])), (h5, .inr (11, [.ref h6, .int 0])), (h6, .inl (cc1, 4960, .inl f1)), (h7, .inr (11, [.ref h8, .int 0])), (h8, .inl (cc2, 4960, .inl f2)), (h9, .inr (11, [.ref h10, .int 0])), (h10, .inl (cc3, 4960, .inl f3)), (h11, .inr (11, [.ref h12, .int 0])), (h12, .inl (cc4, 4960, .inl f4)), (h13, .inr (11, [.ref h14, .int 0])), (h14, .inl (cc5, 4960, .inl f5)), (h15, .inr (11, [.ref h16, .int 0])), (h16, .inl (cc6, 4960, .inl f6))]) [15, 16, 0, 1, 2, 3, 4, 5, 6, 7, 8, 9, 10, 11] (by decide) rfl
  have hKc := hK.sub (tys' := [(cc1, .int), (cc2, .int), (cc3, .int), (cc4, .int), (cc5, .int), (cc6, .int)]) [0, 1, 2, 3, 4, 5] rfl
  have hFc := va_free (wc := [(h1, .inr (10, [.ref h2, .ref h5, .ref h7, .ref h9, .ref h11, .ref h13, .ref h15, v14, .ref h3])), (h3, .inr (11, [.ref h4, .int 1])), (h5, .inr (11, [.ref h6, .int 0])), (h6, .inl (cc1, 4960, .inl f1)), (h7, .inr (11, [.ref h8, .int 0])), (h8, .inl (cc2, 4960, .inl f2)), (h9, .inr (11, [.ref h10, .int 0])), (h10, .inl (cc3, 4960, .inl f3)), (h11, .inr (11, [.ref h12, .int 0])), (h12, .inl (cc4, 4960, .inl f4)), (h13, .inr (11, [.ref h14, .int 0])), (h14, .inl (cc5, 4960, .inl f5)), (h15, .inr (11, [.ref h16, .int 0])), (h16, .inl (cc6, 4960, .inl f6))]) hD hS hA [15, 16, 0, 1, 2, 3, 4, 5, 6, 7, 8, 9, 10, 11] rfl
  refine va_calli (va_runV (As := [.int 1]) (rest := [.ref h0]) ⟨hx, hb, hml, hown, hts⟩ (kX3_addText l dC dI g H.size h1 h3 h5 h6 h7 h8 h9 h10 h11 h12 h13 h14 h15 h16 (.ref h2) v14 (.ref h4) cc1 f1 cc2 f2 cc3 f3 cc4 f4 cc5 f5 cc6 f6 ) (cwV 1 hts gX9_word_X3_addText rfl rfl rfl (by decide +kernel) ⟨Nat.le_of_ble_eq_true rfl, Nat.le_of_ble_eq_true rfl⟩) ⟨fun a U gg mk q => by obtain ⟨q0, q1, qP, qK, qD, qF⟩ := q; exact ⟨q0, q1, qP, va_K.moved (u := U) (U := U.calling gg mk a) (Vm.Alike.refl U.vm) qK, qD, ns_same qF⟩, va_recv hK hP (ci := 10) (q0 := 15) rfl rfl, fun U hU hW => ⟨rfl, by rw [hU], by rw [hU]; exact hPc, va_K.moved hW.alike hKc, hDc.weaken (fun _ _ _ _ => trivial), ns_call hF hS hFc hU hW⟩⟩ rfl rfl hl.1 rfl (lv_room (Nat.le_of_ble_eq_true rfl)) dX9_word_75 ⟨Nat.le_of_ble_eq_true rfl, Nat.le_of_ble_eq_true rfl⟩) hS (fun q _ h => hFc q h) hFc (fun r9 u t H1 locs ht hvm hw hB hz1 hk1 hS => ?_)
  obtain rfl := hw
  obtain ⟨hP1, hK1, hD1⟩ := hB
  rw [ht] at hP1
  have hK1 := va_K.moved hvm.symm hK1
  obtain ⟨hP, hD⟩ := va_join (wr := [(h17, .inl (cc7, 80, .inl f7)), (h0, .inr (16, [.ref h1, v0, v1, v2, v3, v4, v5, v6, v7, v8, v9, v10, v11, v12, v13, .int 0])), (h2, .inr (11, [.ref h17, .int 0])), (h4, .inl (cc0, 4960, .inl (upd (f0) 0 (97 + x0))))]) (w1 := [(h3, .inr (11, [.ref h4, .int 1])), (h1, .inr (10, [.ref h2, .ref h5, .ref h7, .ref h9, .ref h11, .ref h13, .ref h15, v14, .ref h3])), (h6, .inl (cc1, 4960, .inl (upd (f1) 0 0))), (h7, .inr (11, [.ref h8, .int 1])), (h8, .inl (cc2, 4960, .inl (upd (f2) 0 0))), (h9, .inr (11, [.ref h10, .int 1])), (h10, .inl (cc3, 4960, .inl (upd (f3) 0 1))), (h11, .inr (11, [.ref h12, .int 1])), (h12, .inl (cc4, 4960, .inl (upd (f4) 0 0))), (h13, .inr (11, [.ref h14, .int 1])), (h14, .inl (cc5, 4960, .inl (upd (f5) 0 1))), (h15, .inr (11, [.ref h16, .int 1])), (h16, .inl (cc6, 4960, .inl (upd (f6) 0 1))), (h5, .inr (11, [.ref h6, .int 1]))]) hP hD [15, 16, 0, 1, 2, 3, 4, 5, 6, 7, 8, 9, 10, 11] [12, 13, 14, 17] rfl rfl (by decide) (by decide) hk1 hFc hP1 hD1
  have hK := (hK.sub (tys' := [(cc7, .int), (cc0, .int)]) [6, 7] rfl).app hK1
  generalize H1 = H at hP hS ⊢
  have hP : va_P (dC, dI) vwCl [(h17, .inl (cc7, 80, .inl f7)), (h0, .inr (16, [.ref h1, v0, v1, v2, v3, v4, v5, v6, v7, v8, v9, v10, v11, v12, v13, .int 0])), (h2, .inr (11, [.ref h17, .int 0])), (h4, .inl (cc0, 4960, .inl (upd (f0) 0 (97 + x0)))), (h3, .inr (11, [.ref h4, .int 1])), (h1, .inr (10, [.ref h2, .ref h5, .ref h7, .ref h9, .ref h11, .ref h13, .ref h15, v14, .ref h3])), (h6, .inl (cc1, 4960, .inl (upd (f1) 0 0))), (h7, .inr (11, [.ref h8, .int 1])), (h8, .inl (cc2, 4960, .inl (upd (f2) 0 0))), (h9, .inr (11, [.ref h10, .int 1])), (h10, .inl (cc3, 4960, .inl (upd (f3) 0 1))), (h11, .inr (11, [.ref h12, .int 1])), (h12, .inl (cc4, 4960, .inl (upd (f4) 0 0))), (h13, .inr (11, [.ref h14, .int 1])), (h14, .inl (cc5, 4960, .inl (upd (f5) 0 1))), (h15, .inr (11, [.ref h16, .int 1])), (h16, .inl (cc6, 4960, .inl (upd (f6) 0 1))), (h5, .inr (11, [.ref h6, .int 1]))] H := hP
  have hD : va_D A [(h17, .inl (cc7, 80, .inl f7)), (h0, .inr (16, [.ref h1, v0, v1, v2, v3, v4, v5, v6, v7, v8, v9, v10, v11, v12, v13, .int 0])), (h2, .inr (11, [.ref h17, .int 0])), (h4, .inl (cc0, 4960, .inl (upd (f0) 0 (97 + x0)))), (h3, .inr (11, [.ref h4, .int 1])), (h1, .inr (10, [.ref h2, .ref h5, .ref h7, .ref h9, .ref h11, .ref h13, .ref h15, v14, .ref h3])), (h6, .inl (cc1, 4960, .inl (upd (f1) 0 0))), (h7, .inr (11, [.ref h8, .int 1])), (h8, .inl (cc2, 4960, .inl (upd (f2) 0 0))), (h9, .inr (11, [.ref h10, .int 1])), (h10, .inl (cc3, 4960, .inl (upd (f3) 0 1))), (h11, .inr (11, [.ref h12, .int 1])), (h12, .inl (cc4, 4960, .inl (upd (f4) 0 0))), (h13, .inr (11, [.ref h14, .int 1])), (h14, .inl (cc5, 4960, .inl (upd (f5) 0 1))), (h15, .inr (11, [.ref h16, .int 1])), (h16, .inl (cc6, 4960, .inl (upd (f6) 0 1))), (h5, .inr (11, [.ref h6, .int 1]))] := hD
  have hK : va_K (dC, dI) vwCl [(cc7, .int), (cc0, .int), (cc1, .int), (cc2, .int), (cc3, .int), (cc4, .int), (cc5, .int), (cc6, .int)] s := hK
  refine W.widen (k := 0) (n := 0) (Nat.le_of_ble_eq_true rfl) (Nat.le_of_ble_eq_true rfl) ?_
  have hPc := hP.sub (ws' := [(h0, .inr (16, [.ref h1, v0, v1, v2, v3, v4, v5, v6, v7, v8, v9, v10, v11, v12, v13, .int 0])), (h1, .inr (10, [.ref h2, .ref h5, .ref h7, .ref h9, .ref h11, .ref h13, .ref h15, v14, .ref h3])), (h2, .inr (11, [.ref h17, .int 0])), (h17, .inl (cc7, 80, .inl f7))]) [1, 5, 2, 0] rfl
  have hDc := hD.sub (ws' := [(h0, .inr (16, [.ref h1, v0, v1, v2, v3, v4, v5, v6, v7, v8, v9, v10, v11, v12, v13, .int 0])), (h1, .inr (10, [.ref h2, .ref h5, .ref h7, .ref h9, .ref h11, .ref h13, .ref h15, v14, .ref h3])), (h2, .inr (11, [.ref h17, .int 0])), (h17, .inl (cc7, 80, .inl f7))]) [1, 5, 2, 0] (by decide) rfl
  have hKc := hK.sub (tys' := [(cc7, .int)]) [0] rfl
  have hFc := va_free (wc := [(h0, .inr (16, [.ref h1, v0, v1, v2, v3, v4, v5, v6, v7, v8, v9, v10, v11, v12, v13, .int 0])), (h1, .inr (10, [.ref h2, .ref h5, .ref h7, .ref h9, .ref h11, .ref h13, .ref h15, v14, .ref h3])), (h2, .inr (11, [.ref h17, .int 0])), (h17, .inl (cc7, 80, .inl f7))]) hD hS hA [1, 5, 2, 0] rfl
  refine va_calli (va_runV (As := [.int 0]) (rest := []) ⟨hx, hb, hml, hown, hts⟩ (kX9_numbered l dC dI g H.size h0 h1 h2 h17 v0 v1 v2 v3 v4 v5 v6 v7 v8 v9 v10 v11 v12 v13 (.ref h5) (.ref h7) (.ref h9) (.ref h11) (.ref h13) (.ref h15) v14 (.ref h3) cc7 f7 ) (cwV 1 hts gX9_word_X9_numbered rfl rfl rfl (by decide +kernel) ⟨Nat.le_of_ble_eq_true rfl, Nat.le_of_ble_eq_true rfl⟩) ⟨fun a U gg mk q => by obtain ⟨q0, q1, qP, qK, qD, qF⟩ := q; exact ⟨q0, q1, qP, va_K.moved (u := U) (U := U.calling gg mk a) (Vm.Alike.refl U.vm) qK, qD, ns_same qF⟩, va_recv hK hP (ci := 16) (q0 := 1) rfl rfl, fun U hU hW => ⟨rfl, by rw [hU], by rw [hU]; exact hPc, va_K.moved hW.alike hKc, hDc.weaken (fun _ _ _ _ => trivial), ns_call hF hS hFc hU hW⟩⟩ rfl rfl hl.1 rfl (lv_room (Nat.le_of_ble_eq_true rfl)) dX9_word_78 ⟨Nat.le_of_ble_eq_true rfl, Nat.le_of_ble_eq_true rfl⟩) hS (fun q _ h => hFc q h) hFc (fun r9 u t H1 locs ht hvm hw hB hz1 hk1 hS => ?_)
  obtain rfl := hw
  obtain ⟨hP1, hK1, hD1⟩ := hB
  rw [ht] at hP1
  have hK1 := va_K.moved hvm.symm hK1
  obtain ⟨hP, hD⟩ := va_join (wr := [(h4, .inl (cc0, 4960, .inl (upd (f0) 0 (97 + x0)))), (h3, .inr (11, [.ref h4, .int 1])), (h6, .inl (cc1, 4960, .inl (upd (f1) 0 0))), (h7, .inr (11, [.ref h8, .int 1])), (h8, .inl (cc2, 4960, .inl (upd (f2) 0 0))), (h9, .inr (11, [.ref h10, .int 1])), (h10, .inl (cc3, 4960, .inl (upd (f3) 0 1))), (h11, .inr (11, [.ref h12, .int 1])), (h12, .inl (cc4, 4960, .inl (upd (f4) 0 0))), (h13, .inr (11, [.ref h14, .int 1])), (h14, .inl (cc5, 4960, .inl (upd (f5) 0 1))), (h15, .inr (11, [.ref h16, .int 1])), (h16, .inl (cc6, 4960, .inl (upd (f6) 0 1))), (h5, .inr (11, [.ref h6, .int 1]))]) (w1 := [(h0, .inr (16, [.ref h1, v0, v1, v2, v3, v4, v5, v6, v7, v8, v9, v10, v11, v12, v13, .int 1])), (h1, .inr (10, [.ref h2, .ref h5, .ref h7, .ref h9, .ref h11, .ref h13, .ref h15, v14, .ref h3])), (h17, .inl (cc7, 80, .inl (upd (f7) 0 0))), (h2, .inr (11, [.ref h17, .int 1]))]) hP hD [1, 5, 2, 0] [3, 4, 6, 7, 8, 9, 10, 11, 12, 13, 14, 15, 16, 17] rfl rfl (by decide) (by decide) hk1 hFc hP1 hD1
  have hK := (hK.sub (tys' := [(cc0, .int), (cc1, .int), (cc2, .int), (cc3, .int), (cc4, .int), (cc5, .int), (cc6, .int)]) [1, 2, 3, 4, 5, 6, 7] rfl).app hK1
  generalize H1 = H at hP hS ⊢
  have hP : va_P (dC, dI) vwCl [(h4, .inl (cc0, 4960, .inl (upd (f0) 0 (97 + x0)))), (h3, .inr (11, [.ref h4, .int 1])), (h6, .inl (cc1, 4960, .inl (upd (f1) 0 0))), (h7, .inr (11, [.ref h8, .int 1])), (h8, .inl (cc2, 4960, .inl (upd (f2) 0 0))), (h9, .inr (11, [.ref h10, .int 1])), (h10, .inl (cc3, 4960, .inl (upd (f3) 0 1))), (h11, .inr (11, [.ref h12, .int 1])), (h12, .inl (cc4, 4960, .inl (upd (f4) 0 0))), (h13, .inr (11, [.ref h14, .int 1])), (h14, .inl (cc5, 4960, .inl (upd (f5) 0 1))), (h15, .inr (11, [.ref h16, .int 1])), (h16, .inl (cc6, 4960, .inl (upd (f6) 0 1))), (h5, .inr (11, [.ref h6, .int 1])), (h0, .inr (16, [.ref h1, v0, v1, v2, v3, v4, v5, v6, v7, v8, v9, v10, v11, v12, v13, .int 1])), (h1, .inr (10, [.ref h2, .ref h5, .ref h7, .ref h9, .ref h11, .ref h13, .ref h15, v14, .ref h3])), (h17, .inl (cc7, 80, .inl (upd (f7) 0 0))), (h2, .inr (11, [.ref h17, .int 1]))] H := hP
  have hD : va_D A [(h4, .inl (cc0, 4960, .inl (upd (f0) 0 (97 + x0)))), (h3, .inr (11, [.ref h4, .int 1])), (h6, .inl (cc1, 4960, .inl (upd (f1) 0 0))), (h7, .inr (11, [.ref h8, .int 1])), (h8, .inl (cc2, 4960, .inl (upd (f2) 0 0))), (h9, .inr (11, [.ref h10, .int 1])), (h10, .inl (cc3, 4960, .inl (upd (f3) 0 1))), (h11, .inr (11, [.ref h12, .int 1])), (h12, .inl (cc4, 4960, .inl (upd (f4) 0 0))), (h13, .inr (11, [.ref h14, .int 1])), (h14, .inl (cc5, 4960, .inl (upd (f5) 0 1))), (h15, .inr (11, [.ref h16, .int 1])), (h16, .inl (cc6, 4960, .inl (upd (f6) 0 1))), (h5, .inr (11, [.ref h6, .int 1])), (h0, .inr (16, [.ref h1, v0, v1, v2, v3, v4, v5, v6, v7, v8, v9, v10, v11, v12, v13, .int 1])), (h1, .inr (10, [.ref h2, .ref h5, .ref h7, .ref h9, .ref h11, .ref h13, .ref h15, v14, .ref h3])), (h17, .inl (cc7, 80, .inl (upd (f7) 0 0))), (h2, .inr (11, [.ref h17, .int 1]))] := hD
  have hK : va_K (dC, dI) vwCl [(cc0, .int), (cc1, .int), (cc2, .int), (cc3, .int), (cc4, .int), (cc5, .int), (cc6, .int), (cc7, .int)] s := hK
  refine W.widen (k := 0) (n := 0) (Nat.le_of_ble_eq_true rfl) (Nat.le_of_ble_eq_true rfl) ?_
  have hP9 := hP.sub (ws' := [(h4, .inl (cc0, 4960, .inl (upd (f0) 0 (97 + x0)))), (h3, .inr (11, [.ref h4, .int 1])), (h6, .inl (cc1, 4960, .inl (upd (f1) 0 0))), (h7, .inr (11, [.ref h8, .int 1])), (h8, .inl (cc2, 4960, .inl (upd (f2) 0 0))), (h9, .inr (11, [.ref h10, .int 1])), (h10, .inl (cc3, 4960, .inl (upd (f3) 0 1))), (h11, .inr (11, [.ref h12, .int 1])), (h12, .inl (cc4, 4960, .inl (upd (f4) 0 0))), (h13, .inr (11, [.ref h14, .int 1])), (h14, .inl (cc5, 4960, .inl (upd (f5) 0 1))), (h15, .inr (11, [.ref h16, .int 1])), (h16, .inl (cc6, 4960, .inl (upd (f6) 0 1))), (h5, .inr (11, [.ref h6, .int 1])), (h0, .inr (16, [.ref h1, v0, v1, v2, v3, v4, v5, v6, v7, v8, v9, v10, v11, v12, v13, .int 1])), (h1, .inr (10, [.ref h2, .ref h5, .ref h7, .ref h9, .ref h11, .ref h13, .ref h15, v14, .ref h3])), (h17, .inl (cc7, 80, .inl (upd (f7) 0 0))), (h2, .inr (11, [.ref h17, .int 1]))]) [0, 1, 2, 3, 4, 5, 6, 7, 8, 9, 10, 11, 12, 13, 14, 15, 16, 17] rfl
  have hD9 := hD.sub (ws' := [(h4, .inl (cc0, 4960, .inl (upd (f0) 0 (97 + x0)))), (h3, .inr (11, [.ref h4, .int 1])), (h6, .inl (cc1, 4960, .inl (upd (f1) 0 0))), (h7, .inr (11, [.ref h8, .int 1])), (h8, .inl (cc2, 4960, .inl (upd (f2) 0 0))), (h9, .inr (11, [.ref h10, .int 1])), (h10, .inl (cc3, 4960, .inl (upd (f3) 0 1))), (h11, .inr (11, [.ref h12, .int 1])), (h12, .inl (cc4, 4960, .inl (upd (f4) 0 0))), (h13, .inr (11, [.ref h14, .int 1])), (h14, .inl (cc5, 4960, .inl (upd (f5) 0 1))), (h15, .inr (11, [.ref h16, .int 1])), (h16, .inl (cc6, 4960, .inl (upd (f6) 0 1))), (h5, .inr (11, [.ref h6, .int 1])), (h0, .inr (16, [.ref h1, v0, v1, v2, v3, v4, v5, v6, v7, v8, v9, v10, v11, v12, v13, .int 1])), (h1, .inr (10, [.ref h2, .ref h5, .ref h7, .ref h9, .ref h11, .ref h13, .ref h15, v14, .ref h3])), (h17, .inl (cc7, 80, .inl (upd (f7) 0 0))), (h2, .inr (11, [.ref h17, .int 1]))]) [0, 1, 2, 3, 4, 5, 6, 7, 8, 9, 10, 11, 12, 13, 14, 15, 16, 17] (by decide) rfl
  have hK9 := hK.sub (tys' := [(cc0, .int), (cc1, .int), (cc2, .int), (cc3, .int), (cc4, .int), (cc5, .int), (cc6, .int), (cc7, .int)]) [0, 1, 2, 3, 4, 5, 6, 7] rfl
  refine W.widen (k := 0) (n := 0) (Nat.le_of_ble_eq_true rfl) (Nat.le_of_ble_eq_true rfl) ?_
  exact W.iret (v := 0) hx hb hr (fun t ht hW => ⟨⟨_, (), rfl, rfl, by rw [ht]; exact hP9, va_K.moved hW.alike hK9, hD9⟩, hS.F ht⟩) hS.2.2 dX9_word_81
set_option maxHeartbeats 4000000 in
set_option maxRecDepth 100000 in
theorem kL_word_13 (l : Launch) (dC : Nat → ClassId) (dI : Nat → Nat → Nat) (g : Nat → Nat) (sz : Nat) (h0 : Nat) (x0 : Int32) (h1 : Nat) (h2 : Nat) (h3 : Nat) (h4 : Nat) (h5 : Nat) (h6 : Nat) (h7 : Nat) (h8 : Nat) (h9 : Nat) (h10 : Nat) (h11 : Nat) (h12 : Nat) (h13 : Nat) (h14 : Nat) (h15 : Nat) (h16 : Nat) (h17 : Nat) (h18 : Nat) (v0 : Value) (v1 : Value) (v2 : Value) (v3 : Value) (v4 : Value) (v5 : Value) (v6 : Value) (v7 : Value) (v8 : Value) (v9 : Value) (v10 : Value) (v11 : Value) (v12 : Value) (v13 : Value) (v14 : Value) (cc0 : ClassId) (f0 : Nat → Int32) (cc1 : ClassId) (f1 : Nat → Int32) (cc2 : ClassId) (f2 : Nat → Int32) (cc3 : ClassId) (f3 : Nat → Int32) (cc4 : ClassId) (f4 : Nat → Int32) (cc5 : ClassId) (f5 : Nat → Int32) (cc6 : ClassId) (f6 : Nat → Int32) (cc7 : ClassId) (f7 : Nat → Int32) (v15 : Value) (v16 : Value) (ex0 : (0 : Int) ≤ x0.toInt ∧ x0.toInt ≤ (25 : Int)) : Met l yL_word wsL_word ({ frames := 4, cells := 0, slots := 0, locals := 91 }) (va_Pc [.ref h0, .int x0, .int 1, .ref h1] (fun U => U.heap.size = sz ∧ va_P (dC, dI) vwCl [(h0, .inr (16, [.ref h2, v0, v1, v2, v3, v4, v5, v6, v7, v8, v9, v10, v11, v12, v13, .int 0])), (h2, .inr (10, [.ref h3, .ref h6, .ref h8, .ref h10, .ref h12, .ref h14, .ref h16, v14, .ref h4])), (h3, .inr (11, [.ref h18, .int 0])), (h4, .inr (11, [.ref h5, .int 0])), (h5, .inl (cc0, 4960, .inl f0)), (h6, .inr (11, [.ref h7, .int 0])), (h7, .inl (cc1, 4960, .inl f1)), (h8, .inr (11, [.ref h9, .int 0])), (h9, .inl (cc2, 4960, .inl f2)), (h10, .inr (11, [.ref h11, .int 0])), (h11, .inl (cc3, 4960, .inl f3)), (h12, .inr (11, [.ref h13, .int 0])), (h13, .inl (cc4, 4960, .inl f4)), (h14, .inr (11, [.ref h15, .int 0])), (h15, .inl (cc5, 4960, .inl f5)), (h16, .inr (11, [.ref h17, .int 0])), (h17, .inl (cc6, 4960, .inl f6)), (h18, .inl (cc7, 80, .inl f7)), (h1, .inr (17, [v15, v16]))] U.heap ∧ va_K (dC, dI) vwCl [(cc0, .int), (cc1, .int), (cc2, .int), (cc3, .int), (cc4, .int), (cc5, .int), (cc6, .int), (cc7, .int)] U ∧ va_D (fun _ => True) [(h0, .inr (16, [.ref h2, v0, v1, v2, v3, v4, v5, v6, v7, v8, v9, v10, v11, v12, v13, .int 0])), (h2, .inr (10, [.ref h3, .ref h6, .ref h8, .ref h10, .ref h12, .ref h14, .ref h16, v14, .ref h4])), (h3, .inr (11, [.ref h18, .int 0])), (h4, .inr (11, [.ref h5, .int 0])), (h5, .inl (cc0, 4960, .inl f0)), (h6, .inr (11, [.ref h7, .int 0])), (h7, .inl (cc1, 4960, .inl f1)), (h8, .inr (11, [.ref h9, .int 0])), (h9, .inl (cc2, 4960, .inl f2)), (h10, .inr (11, [.ref h11, .int 0])), (h11, .inl (cc3, 4960, .inl f3)), (h12, .inr (11, [.ref h13, .int 0])), (h13, .inl (cc4, 4960, .inl f4)), (h14, .inr (11, [.ref h15, .int 0])), (h15, .inl (cc5, 4960, .inl f5)), (h16, .inr (11, [.ref h17, .int 0])), (h17, .inl (cc6, 4960, .inl f6)), (h18, .inl (cc7, 80, .inl f7)), (h1, .inr (17, [v15, v16]))] ∧ ns_F g (va_A [(h0, .inr (16, [.ref h2, v0, v1, v2, v3, v4, v5, v6, v7, v8, v9, v10, v11, v12, v13, .int 0])), (h2, .inr (10, [.ref h3, .ref h6, .ref h8, .ref h10, .ref h12, .ref h14, .ref h16, v14, .ref h4])), (h3, .inr (11, [.ref h18, .int 0])), (h4, .inr (11, [.ref h5, .int 0])), (h5, .inl (cc0, 4960, .inl f0)), (h6, .inr (11, [.ref h7, .int 0])), (h7, .inl (cc1, 4960, .inl f1)), (h8, .inr (11, [.ref h9, .int 0])), (h9, .inl (cc2, 4960, .inl f2)), (h10, .inr (11, [.ref h11, .int 0])), (h11, .inl (cc3, 4960, .inl f3)), (h12, .inr (11, [.ref h13, .int 0])), (h13, .inl (cc4, 4960, .inl f4)), (h14, .inr (11, [.ref h15, .int 0])), (h15, .inl (cc5, 4960, .inl f5)), (h16, .inr (11, [.ref h17, .int 0])), (h17, .inl (cc6, 4960, .inl f6)), (h18, .inl (cc7, 80, .inl f7)), (h1, .inr (17, [v15, v16]))] sz) U U.heap)) (va_Qi (fun (r : Int32) (_ : Unit) => r = 0) (fun _ t => va_P (dC, dI) vwCl [(h1, .inr (17, [.long 0, v16])), (h5, .inl (cc0, 4960, .inl (upd (f0) 0 (97 + x0)))), (h4, .inr (11, [.ref h5, .int 1])), (h7, .inl (cc1, 4960, .inl (upd (f1) 0 0))), (h8, .inr (11, [.ref h9, .int 1])), (h9, .inl (cc2, 4960, .inl (upd (f2) 0 0))), (h10, .inr (11, [.ref h11, .int 1])), (h11, .inl (cc3, 4960, .inl (upd (f3) 0 1))), (h12, .inr (11, [.ref h13, .int 1])), (h13, .inl (cc4, 4960, .inl (upd (f4) 0 0))), (h14, .inr (11, [.ref h15, .int 1])), (h15, .inl (cc5, 4960, .inl (upd (f5) 0 1))), (h16, .inr (11, [.ref h17, .int 1])), (h17, .inl (cc6, 4960, .inl (upd (f6) 0 1))), (h6, .inr (11, [.ref h7, .int 1])), (h0, .inr (16, [.ref h2, v0, v1, v2, v3, v4, v5, v6, v7, v8, v9, v10, v11, v12, v13, .int 1])), (h2, .inr (10, [.ref h3, .ref h6, .ref h8, .ref h10, .ref h12, .ref h14, .ref h16, v14, .ref h4])), (h18, .inl (cc7, 80, .inl (upd (f7) 0 0))), (h3, .inr (11, [.ref h18, .int 1]))] t.heap ∧ va_K (dC, dI) vwCl [(cc0, .int), (cc1, .int), (cc2, .int), (cc3, .int), (cc4, .int), (cc5, .int), (cc6, .int), (cc7, .int)] t ∧ va_D (va_A [(h0, .inr (16, [.ref h2, v0, v1, v2, v3, v4, v5, v6, v7, v8, v9, v10, v11, v12, v13, .int 0])), (h2, .inr (10, [.ref h3, .ref h6, .ref h8, .ref h10, .ref h12, .ref h14, .ref h16, v14, .ref h4])), (h3, .inr (11, [.ref h18, .int 0])), (h4, .inr (11, [.ref h5, .int 0])), (h5, .inl (cc0, 4960, .inl f0)), (h6, .inr (11, [.ref h7, .int 0])), (h7, .inl (cc1, 4960, .inl f1)), (h8, .inr (11, [.ref h9, .int 0])), (h9, .inl (cc2, 4960, .inl f2)), (h10, .inr (11, [.ref h11, .int 0])), (h11, .inl (cc3, 4960, .inl f3)), (h12, .inr (11, [.ref h13, .int 0])), (h13, .inl (cc4, 4960, .inl f4)), (h14, .inr (11, [.ref h15, .int 0])), (h15, .inl (cc5, 4960, .inl f5)), (h16, .inr (11, [.ref h17, .int 0])), (h17, .inl (cc6, 4960, .inl f6)), (h18, .inl (cc7, 80, .inl f7)), (h1, .inr (17, [v15, v16]))] sz) [(h1, .inr (17, [.long 0, v16])), (h5, .inl (cc0, 4960, .inl (upd (f0) 0 (97 + x0)))), (h4, .inr (11, [.ref h5, .int 1])), (h7, .inl (cc1, 4960, .inl (upd (f1) 0 0))), (h8, .inr (11, [.ref h9, .int 1])), (h9, .inl (cc2, 4960, .inl (upd (f2) 0 0))), (h10, .inr (11, [.ref h11, .int 1])), (h11, .inl (cc3, 4960, .inl (upd (f3) 0 1))), (h12, .inr (11, [.ref h13, .int 1])), (h13, .inl (cc4, 4960, .inl (upd (f4) 0 0))), (h14, .inr (11, [.ref h15, .int 1])), (h15, .inl (cc5, 4960, .inl (upd (f5) 0 1))), (h16, .inr (11, [.ref h17, .int 1])), (h17, .inl (cc6, 4960, .inl (upd (f6) 0 1))), (h6, .inr (11, [.ref h7, .int 1])), (h0, .inr (16, [.ref h2, v0, v1, v2, v3, v4, v5, v6, v7, v8, v9, v10, v11, v12, v13, .int 1])), (h2, .inr (10, [.ref h3, .ref h6, .ref h8, .ref h10, .ref h12, .ref h14, .ref h16, v14, .ref h4])), (h18, .inl (cc7, 80, .inl (upd (f7) 0 0))), (h3, .inr (11, [.ref h18, .int 1]))]) (va_A [(h0, .inr (16, [.ref h2, v0, v1, v2, v3, v4, v5, v6, v7, v8, v9, v10, v11, v12, v13, .int 0])), (h2, .inr (10, [.ref h3, .ref h6, .ref h8, .ref h10, .ref h12, .ref h14, .ref h16, v14, .ref h4])), (h3, .inr (11, [.ref h18, .int 0])), (h4, .inr (11, [.ref h5, .int 0])), (h5, .inl (cc0, 4960, .inl f0)), (h6, .inr (11, [.ref h7, .int 0])), (h7, .inl (cc1, 4960, .inl f1)), (h8, .inr (11, [.ref h9, .int 0])), (h9, .inl (cc2, 4960, .inl f2)), (h10, .inr (11, [.ref h11, .int 0])), (h11, .inl (cc3, 4960, .inl f3)), (h12, .inr (11, [.ref h13, .int 0])), (h13, .inl (cc4, 4960, .inl f4)), (h14, .inr (11, [.ref h15, .int 0])), (h15, .inl (cc5, 4960, .inl f5)), (h16, .inr (11, [.ref h17, .int 0])), (h17, .inl (cc6, 4960, .inl f6)), (h18, .inl (cc7, 80, .inl f7)), (h1, .inr (17, [v15, v16]))] sz)) 0 0 (va_A [(h0, .inr (16, [.ref h2, v0, v1, v2, v3, v4, v5, v6, v7, v8, v9, v10, v11, v12, v13, .int 0])), (h2, .inr (10, [.ref h3, .ref h6, .ref h8, .ref h10, .ref h12, .ref h14, .ref h16, v14, .ref h4])), (h3, .inr (11, [.ref h18, .int 0])), (h4, .inr (11, [.ref h5, .int 0])), (h5, .inl (cc0, 4960, .inl f0)), (h6, .inr (11, [.ref h7, .int 0])), (h7, .inl (cc1, 4960, .inl f1)), (h8, .inr (11, [.ref h9, .int 0])), (h9, .inl (cc2, 4960, .inl f2)), (h10, .inr (11, [.ref h11, .int 0])), (h11, .inl (cc3, 4960, .inl f3)), (h12, .inr (11, [.ref h13, .int 0])), (h13, .inl (cc4, 4960, .inl f4)), (h14, .inr (11, [.ref h15, .int 0])), (h15, .inl (cc5, 4960, .inl f5)), (h16, .inr (11, [.ref h17, .int 0])), (h17, .inl (cc6, 4960, .inl f6)), (h18, .inl (cc7, 80, .inl f7)), (h1, .inr (17, [v15, v16]))] sz) := by
  refine va_MetW (cc := cL_word) (maxL := 5) (ret := (some .int)) (hh := [(0, 11, 14, 19), (0, 11, 18, 21)]) (by decide) rfl ?_
  intro p e s m args below meth c s₁ B hml hv
  obtain ⟨rfl, hsz, hP, hK, hD0, hF⟩ := hv
  have hx := B.exec
  have hb := B.bytes
  have hr := B.returns
  have hts := atoms_spec (ws := wsL_word) B.pre
  have hown : s.vm.findClass RL = some m.cls := findClass_of_methodNamed B.named
  have hlocks := B.notSynchronized
  have htab : c.exceptionTable.toList = [⟨0, 11, 14, 19⟩, ⟨0, 11, 18, 21⟩] := vx_table B (hts _ List.mem_cons_self)
  subst hsz
  have hD := hD0.self (sz := s.heap.size)
  generalize hAe : va_A [(h0, .inr (16, [.ref h2, v0, v1, v2, v3, v4, v5, v6, v7, v8, v9, v10, v11, v12, v13, .int 0])), (h2, .inr (10, [.ref h3, .ref h6, .ref h8, .ref h10, .ref h12, .ref h14, .ref h16, v14, .ref h4])), (h3, .inr (11, [.ref h18, .int 0])), (h4, .inr (11, [.ref h5, .int 0])), (h5, .inl (cc0, 4960, .inl f0)), (h6, .inr (11, [.ref h7, .int 0])), (h7, .inl (cc1, 4960, .inl f1)), (h8, .inr (11, [.ref h9, .int 0])), (h9, .inl (cc2, 4960, .inl f2)), (h10, .inr (11, [.ref h11, .int 0])), (h11, .inl (cc3, 4960, .inl f3)), (h12, .inr (11, [.ref h13, .int 0])), (h13, .inl (cc4, 4960, .inl f4)), (h14, .inr (11, [.ref h15, .int 0])), (h15, .inl (cc5, 4960, .inl f5)), (h16, .inr (11, [.ref h17, .int 0])), (h17, .inl (cc6, 4960, .inl f6)), (h18, .inl (cc7, 80, .inl f7)), (h1, .inr (17, [v15, v16]))] s.heap.size = A at hD hF ⊢
  have hA : ∀ q : Nat, s.heap.size ≤ q → A q := fun q h => by rw [← hAe]; exact Or.inr h
  have hS : va_S A s.heap s.heap [] := va_S.rf
  have hP : va_P (dC, dI) vwCl [(h0, .inr (16, [.ref h2, v0, v1, v2, v3, v4, v5, v6, v7, v8, v9, v10, v11, v12, v13, .int 0])), (h2, .inr (10, [.ref h3, .ref h6, .ref h8, .ref h10, .ref h12, .ref h14, .ref h16, v14, .ref h4])), (h3, .inr (11, [.ref h18, .int 0])), (h4, .inr (11, [.ref h5, .int 0])), (h5, .inl (cc0, 4960, .inl f0)), (h6, .inr (11, [.ref h7, .int 0])), (h7, .inl (cc1, 4960, .inl f1)), (h8, .inr (11, [.ref h9, .int 0])), (h9, .inl (cc2, 4960, .inl f2)), (h10, .inr (11, [.ref h11, .int 0])), (h11, .inl (cc3, 4960, .inl f3)), (h12, .inr (11, [.ref h13, .int 0])), (h13, .inl (cc4, 4960, .inl f4)), (h14, .inr (11, [.ref h15, .int 0])), (h15, .inl (cc5, 4960, .inl f5)), (h16, .inr (11, [.ref h17, .int 0])), (h17, .inl (cc6, 4960, .inl f6)), (h18, .inl (cc7, 80, .inl f7)), (h1, .inr (17, [v15, v16]))] s.heap := hP
  have hl := lv_entry ([.ref h0, .int x0, .int 1, .ref h1]) (n := 5) (Nat.le_of_ble_eq_true rfl)
  rw [lg_entry_eq]
  generalize (lg_sl ([.ref h0, .int x0, .int 1, .ref h1]) ++ List.replicate (5 - (lg_sl ([.ref h0, .int x0, .int 1, .ref h1])).length) Slot.unset).toArray = ls at hl ⊢
  have hl : lv_has ls 5 [(0, .ref h0), (1, .int x0), (2, .int 1), (3, .ref h1)] := hl
  refine lv_aload_n hx hb dL_word_0 rfl (lv_at hl 3 rfl) ?_
  refine lv_aload_n hx hb dL_word_1 rfl (lv_at hl 0 rfl) ?_
  refine lv_iload_n hx hb dL_word_2 rfl (lv_at hl 1 rfl) ?_
  refine lv_iload_n hx hb dL_word_3 rfl (lv_at hl 2 rfl) ?_
  have hPc := hP.sub (ws' := [(h0, .inr (16, [.ref h2, v0, v1, v2, v3, v4, v5, v6, v7, v8, v9, v10, v11, v12, v13, .int 0])), (h2, .inr (10, [.ref h3, .ref h6, .ref h8, .ref h10, .ref h12, .ref h14, .ref h16, v14, .ref h4])), (h3, .inr (11, [.ref h18, .int 0])), (h4, .inr (11, [.ref h5, .int 0])), (h5, .inl (cc0, 4960, .inl f0)), (h6, .inr (11, [.ref h7, .int 0])), (h7, .inl (cc1, 4960, .inl f1)), (h8, .inr (11, [.ref h9, .int 0])), (h9, .inl (cc2, 4960, .inl f2)), (h10, .inr (11, [.ref h11, .int 0])), (h11, .inl (cc3, 4960, .inl f3)), (h12, .inr (11, [.ref h13, .int 0])), (h13, .inl (cc4, 4960, .inl f4)), (h14, .inr (11, [.ref h15, .int 0])), (h15, .inl (cc5, 4960, .inl f5)), (h16, .inr (11, [.ref h17, .int 0])), (h17, .inl (cc6, 4960, .inl f6)), (h18, .inl (cc7, 80, .inl f7))]) [0, 1, 2, 3, 4, 5, 6, 7, 8, 9, 10, 11, 12, 13, 14, 15, 16, 17] rfl
  have hDc := hD.sub (ws' := [(h0, .inr (16, [.ref h2, v0, v1, v2, v3, v4, v5, v6, v7, v8, v9, v10, v11, v12, v13, .int 0])), (h2, .inr (10, [.ref h3, .ref h6, .ref h8, .ref h10, .ref h12, .ref h14, .ref h16, v14, .ref h4])), (h3, .inr (11, [.ref h18, .int 0])), (h4, .inr (11, [.ref h5, .int 0])), (h5, .inl (cc0, 4960, .inl f0)), (h6, .inr (11, [.ref h7, .int 0])), (h7, .inl (cc1, 4960, .inl f1)), (h8, .inr (11, [.ref h9, .int 0])), (h9, .inl (cc2, 4960, .inl f2)), (h10, .inr (11, [.ref h11, .int 0])), (h11, .inl (cc3, 4960, .inl f3)), (h12, .inr (11, [.ref h13, .int 0])), (h13, .inl (cc4, 4960, .inl f4)), (h14, .inr (11, [.ref h15, .int 0])), (h15, .inl (cc5, 4960, .inl f5)), (h16, .inr (11, [.ref h17, .int 0])), (h17, .inl (cc6, 4960, .inl f6)), (h18, .inl (cc7, 80, .inl f7))]) [0, 1, 2, 3, 4, 5, 6, 7, 8, 9, 10, 11, 12, 13, 14, 15, 16, 17] (by decide) rfl
  have hKc := hK.sub (tys' := [(cc0, .int), (cc1, .int), (cc2, .int), (cc3, .int), (cc4, .int), (cc5, .int), (cc6, .int), (cc7, .int)]) [0, 1, 2, 3, 4, 5, 6, 7] rfl
  have hFc := va_free (wc := [(h0, .inr (16, [.ref h2, v0, v1, v2, v3, v4, v5, v6, v7, v8, v9, v10, v11, v12, v13, .int 0])), (h2, .inr (10, [.ref h3, .ref h6, .ref h8, .ref h10, .ref h12, .ref h14, .ref h16, v14, .ref h4])), (h3, .inr (11, [.ref h18, .int 0])), (h4, .inr (11, [.ref h5, .int 0])), (h5, .inl (cc0, 4960, .inl f0)), (h6, .inr (11, [.ref h7, .int 0])), (h7, .inl (cc1, 4960, .inl f1)), (h8, .inr (11, [.ref h9, .int 0])), (h9, .inl (cc2, 4960, .inl f2)), (h10, .inr (11, [.ref h11, .int 0])), (h11, .inl (cc3, 4960, .inl f3)), (h12, .inr (11, [.ref h13, .int 0])), (h13, .inl (cc4, 4960, .inl f4)), (h14, .inr (11, [.ref h15, .int 0])), (h15, .inl (cc5, 4960, .inl f5)), (h16, .inr (11, [.ref h17, .int 0])), (h17, .inl (cc6, 4960, .inl f6)), (h18, .inl (cc7, 80, .inl f7))]) hD hS hA [0, 1, 2, 3, 4, 5, 6, 7, 8, 9, 10, 11, 12, 13, 14, 15, 16, 17] rfl
  refine va_calli (va_runV (As := [.int x0, .int 1]) (rest := [.ref h1]) ⟨hx, hb, hml, hown, hts⟩ (kX9_word_13 l dC dI g s.heap.size h0 x0 h2 h3 h4 h5 h6 h7 h8 h9 h10 h11 h12 h13 h14 h15 h16 h17 h18 v0 v1 v2 v3 v4 v5 v6 v7 v8 v9 v10 v11 v12 v13 v14 cc0 f0 cc1 f1 cc2 f2 cc3 f3 cc4 f4 cc5 f5 cc6 f6 cc7 f7 ⟨by omega, by omega⟩) (cwV 2 hts gL_word_X9_word rfl rfl rfl (by decide +kernel) ⟨Nat.le_of_ble_eq_true rfl, Nat.le_of_ble_eq_true rfl⟩) ⟨fun a U gg mk q => by obtain ⟨q0, q1, qP, qK, qD, qF⟩ := q; exact ⟨q0, q1, qP, va_K.moved (u := U) (U := U.calling gg mk a) (Vm.Alike.refl U.vm) qK, qD, ns_same qF⟩, va_recv hK hP (ci := 16) (q0 := 0) rfl rfl, fun U hU hW => ⟨rfl, by rw [hU], by rw [hU]; exact hPc, va_K.moved hW.alike hKc, hDc.weaken (fun _ _ _ _ => trivial), ns_call hF hS hFc hU hW⟩⟩ rfl rfl hl.1 rfl (lv_room (Nat.le_of_ble_eq_true rfl)) dL_word_4 ⟨Nat.le_of_ble_eq_true rfl, Nat.le_of_ble_eq_true rfl⟩) hS (fun q _ h => hFc q h) hFc (fun r9 u t H1 locs ht hvm hw hB hz1 hk1 hS => ?_)
  obtain rfl := hw
  obtain ⟨hP1, hK1, hD1⟩ := hB
  rw [ht] at hP1
  have hK1 := va_K.moved hvm.symm hK1
  obtain ⟨hP, hD⟩ := va_join (wr := [(h1, .inr (17, [v15, v16]))]) (w1 := [(h5, .inl (cc0, 4960, .inl (upd (f0) 0 (97 + x0)))), (h4, .inr (11, [.ref h5, .int 1])), (h7, .inl (cc1, 4960, .inl (upd (f1) 0 0))), (h8, .inr (11, [.ref h9, .int 1])), (h9, .inl (cc2, 4960, .inl (upd (f2) 0 0))), (h10, .inr (11, [.ref h11, .int 1])), (h11, .inl (cc3, 4960, .inl (upd (f3) 0 1))), (h12, .inr (11, [.ref h13, .int 1])), (h13, .inl (cc4, 4960, .inl (upd (f4) 0 0))), (h14, .inr (11, [.ref h15, .int 1])), (h15, .inl (cc5, 4960, .inl (upd (f5) 0 1))), (h16, .inr (11, [.ref h17, .int 1])), (h17, .inl (cc6, 4960, .inl (upd (f6) 0 1))), (h6, .inr (11, [.ref h7, .int 1])), (h0, .inr (16, [.ref h2, v0, v1, v2, v3, v4, v5, v6, v7, v8, v9, v10, v11, v12, v13, .int 1])), (h2, .inr (10, [.ref h3, .ref h6, .ref h8, .ref h10, .ref h12, .ref h14, .ref h16, v14, .ref h4])), (h18, .inl (cc7, 80, .inl (upd (f7) 0 0))), (h3, .inr (11, [.ref h18, .int 1]))]) hP hD [0, 1, 2, 3, 4, 5, 6, 7, 8, 9, 10, 11, 12, 13, 14, 15, 16, 17] [18] rfl rfl (by decide) (by decide) hk1 hFc hP1 hD1
  have hK := (hK.sub (tys' := []) [] rfl).app hK1
  generalize H1 = H at hP hS ⊢
  have hP : va_P (dC, dI) vwCl [(h1, .inr (17, [v15, v16])), (h5, .inl (cc0, 4960, .inl (upd (f0) 0 (97 + x0)))), (h4, .inr (11, [.ref h5, .int 1])), (h7, .inl (cc1, 4960, .inl (upd (f1) 0 0))), (h8, .inr (11, [.ref h9, .int 1])), (h9, .inl (cc2, 4960, .inl (upd (f2) 0 0))), (h10, .inr (11, [.ref h11, .int 1])), (h11, .inl (cc3, 4960, .inl (upd (f3) 0 1))), (h12, .inr (11, [.ref h13, .int 1])), (h13, .inl (cc4, 4960, .inl (upd (f4) 0 0))), (h14, .inr (11, [.ref h15, .int 1])), (h15, .inl (cc5, 4960, .inl (upd (f5) 0 1))), (h16, .inr (11, [.ref h17, .int 1])), (h17, .inl (cc6, 4960, .inl (upd (f6) 0 1))), (h6, .inr (11, [.ref h7, .int 1])), (h0, .inr (16, [.ref h2, v0, v1, v2, v3, v4, v5, v6, v7, v8, v9, v10, v11, v12, v13, .int 1])), (h2, .inr (10, [.ref h3, .ref h6, .ref h8, .ref h10, .ref h12, .ref h14, .ref h16, v14, .ref h4])), (h18, .inl (cc7, 80, .inl (upd (f7) 0 0))), (h3, .inr (11, [.ref h18, .int 1]))] H := hP
  have hD : va_D A [(h1, .inr (17, [v15, v16])), (h5, .inl (cc0, 4960, .inl (upd (f0) 0 (97 + x0)))), (h4, .inr (11, [.ref h5, .int 1])), (h7, .inl (cc1, 4960, .inl (upd (f1) 0 0))), (h8, .inr (11, [.ref h9, .int 1])), (h9, .inl (cc2, 4960, .inl (upd (f2) 0 0))), (h10, .inr (11, [.ref h11, .int 1])), (h11, .inl (cc3, 4960, .inl (upd (f3) 0 1))), (h12, .inr (11, [.ref h13, .int 1])), (h13, .inl (cc4, 4960, .inl (upd (f4) 0 0))), (h14, .inr (11, [.ref h15, .int 1])), (h15, .inl (cc5, 4960, .inl (upd (f5) 0 1))), (h16, .inr (11, [.ref h17, .int 1])), (h17, .inl (cc6, 4960, .inl (upd (f6) 0 1))), (h6, .inr (11, [.ref h7, .int 1])), (h0, .inr (16, [.ref h2, v0, v1, v2, v3, v4, v5, v6, v7, v8, v9, v10, v11, v12, v13, .int 1])), (h2, .inr (10, [.ref h3, .ref h6, .ref h8, .ref h10, .ref h12, .ref h14, .ref h16, v14, .ref h4])), (h18, .inl (cc7, 80, .inl (upd (f7) 0 0))), (h3, .inr (11, [.ref h18, .int 1]))] := hD
  have hK : va_K (dC, dI) vwCl [(cc0, .int), (cc1, .int), (cc2, .int), (cc3, .int), (cc4, .int), (cc5, .int), (cc6, .int), (cc7, .int)] s := hK
  refine W.widen (k := 0) (n := 0) (Nat.le_of_ble_eq_true rfl) (Nat.le_of_ble_eq_true rfl) ?_
  refine lv_i2l (v := 0) hx hb dL_word_7 (by decide) ?_
  refine va_putN (D := (dC, dI)) (ci := 17) (v := .long 0) (ty := .long) (C := RX10) (T := TX10) (N := 2) hx hb hts (by decide +kernel) tyX10 tyX10_ok nmX10 hown hK hP hD hS 0 rfl rfl 0 (by decide) (va_Nw.use rfl (ns_f7 hF)) (fun _ h9 => h9) rfl (by decide +kernel) rfl rfl (Nat.le_of_ble_eq_true rfl) dL_word_8 (fun H locs hP hD hS => ?_)
  have hP : va_P (dC, dI) vwCl [(h1, .inr (17, [.long 0, v16])), (h5, .inl (cc0, 4960, .inl (upd (f0) 0 (97 + x0)))), (h4, .inr (11, [.ref h5, .int 1])), (h7, .inl (cc1, 4960, .inl (upd (f1) 0 0))), (h8, .inr (11, [.ref h9, .int 1])), (h9, .inl (cc2, 4960, .inl (upd (f2) 0 0))), (h10, .inr (11, [.ref h11, .int 1])), (h11, .inl (cc3, 4960, .inl (upd (f3) 0 1))), (h12, .inr (11, [.ref h13, .int 1])), (h13, .inl (cc4, 4960, .inl (upd (f4) 0 0))), (h14, .inr (11, [.ref h15, .int 1])), (h15, .inl (cc5, 4960, .inl (upd (f5) 0 1))), (h16, .inr (11, [.ref h17, .int 1])), (h17, .inl (cc6, 4960, .inl (upd (f6) 0 1))), (h6, .inr (11, [.ref h7, .int 1])), (h0, .inr (16, [.ref h2, v0, v1, v2, v3, v4, v5, v6, v7, v8, v9, v10, v11, v12, v13, .int 1])), (h2, .inr (10, [.ref h3, .ref h6, .ref h8, .ref h10, .ref h12, .ref h14, .ref h16, v14, .ref h4])), (h18, .inl (cc7, 80, .inl (upd (f7) 0 0))), (h3, .inr (11, [.ref h18, .int 1]))] H := hP
  have hD : va_D A [(h1, .inr (17, [.long 0, v16])), (h5, .inl (cc0, 4960, .inl (upd (f0) 0 (97 + x0)))), (h4, .inr (11, [.ref h5, .int 1])), (h7, .inl (cc1, 4960, .inl (upd (f1) 0 0))), (h8, .inr (11, [.ref h9, .int 1])), (h9, .inl (cc2, 4960, .inl (upd (f2) 0 0))), (h10, .inr (11, [.ref h11, .int 1])), (h11, .inl (cc3, 4960, .inl (upd (f3) 0 1))), (h12, .inr (11, [.ref h13, .int 1])), (h13, .inl (cc4, 4960, .inl (upd (f4) 0 0))), (h14, .inr (11, [.ref h15, .int 1])), (h15, .inl (cc5, 4960, .inl (upd (f5) 0 1))), (h16, .inr (11, [.ref h17, .int 1])), (h17, .inl (cc6, 4960, .inl (upd (f6) 0 1))), (h6, .inr (11, [.ref h7, .int 1])), (h0, .inr (16, [.ref h2, v0, v1, v2, v3, v4, v5, v6, v7, v8, v9, v10, v11, v12, v13, .int 1])), (h2, .inr (10, [.ref h3, .ref h6, .ref h8, .ref h10, .ref h12, .ref h14, .ref h16, v14, .ref h4])), (h18, .inl (cc7, 80, .inl (upd (f7) 0 0))), (h3, .inr (11, [.ref h18, .int 1]))] := hD
  refine lv_goto (tgt := 22) hx hb dL_word_11 (by decide) ?_
  refine lv_iconst (v := 0) hx hb dL_word_22 (by decide) ?_
  have hP9 := hP.sub (ws' := [(h1, .inr (17, [.long 0, v16])), (h5, .inl (cc0, 4960, .inl (upd (f0) 0 (97 + x0)))), (h4, .inr (11, [.ref h5, .int 1])), (h7, .inl (cc1, 4960, .inl (upd (f1) 0 0))), (h8, .inr (11, [.ref h9, .int 1])), (h9, .inl (cc2, 4960, .inl (upd (f2) 0 0))), (h10, .inr (11, [.ref h11, .int 1])), (h11, .inl (cc3, 4960, .inl (upd (f3) 0 1))), (h12, .inr (11, [.ref h13, .int 1])), (h13, .inl (cc4, 4960, .inl (upd (f4) 0 0))), (h14, .inr (11, [.ref h15, .int 1])), (h15, .inl (cc5, 4960, .inl (upd (f5) 0 1))), (h16, .inr (11, [.ref h17, .int 1])), (h17, .inl (cc6, 4960, .inl (upd (f6) 0 1))), (h6, .inr (11, [.ref h7, .int 1])), (h0, .inr (16, [.ref h2, v0, v1, v2, v3, v4, v5, v6, v7, v8, v9, v10, v11, v12, v13, .int 1])), (h2, .inr (10, [.ref h3, .ref h6, .ref h8, .ref h10, .ref h12, .ref h14, .ref h16, v14, .ref h4])), (h18, .inl (cc7, 80, .inl (upd (f7) 0 0))), (h3, .inr (11, [.ref h18, .int 1]))]) [0, 1, 2, 3, 4, 5, 6, 7, 8, 9, 10, 11, 12, 13, 14, 15, 16, 17, 18] rfl
  have hD9 := hD.sub (ws' := [(h1, .inr (17, [.long 0, v16])), (h5, .inl (cc0, 4960, .inl (upd (f0) 0 (97 + x0)))), (h4, .inr (11, [.ref h5, .int 1])), (h7, .inl (cc1, 4960, .inl (upd (f1) 0 0))), (h8, .inr (11, [.ref h9, .int 1])), (h9, .inl (cc2, 4960, .inl (upd (f2) 0 0))), (h10, .inr (11, [.ref h11, .int 1])), (h11, .inl (cc3, 4960, .inl (upd (f3) 0 1))), (h12, .inr (11, [.ref h13, .int 1])), (h13, .inl (cc4, 4960, .inl (upd (f4) 0 0))), (h14, .inr (11, [.ref h15, .int 1])), (h15, .inl (cc5, 4960, .inl (upd (f5) 0 1))), (h16, .inr (11, [.ref h17, .int 1])), (h17, .inl (cc6, 4960, .inl (upd (f6) 0 1))), (h6, .inr (11, [.ref h7, .int 1])), (h0, .inr (16, [.ref h2, v0, v1, v2, v3, v4, v5, v6, v7, v8, v9, v10, v11, v12, v13, .int 1])), (h2, .inr (10, [.ref h3, .ref h6, .ref h8, .ref h10, .ref h12, .ref h14, .ref h16, v14, .ref h4])), (h18, .inl (cc7, 80, .inl (upd (f7) 0 0))), (h3, .inr (11, [.ref h18, .int 1]))]) [0, 1, 2, 3, 4, 5, 6, 7, 8, 9, 10, 11, 12, 13, 14, 15, 16, 17, 18] (by decide) rfl
  have hK9 := hK.sub (tys' := [(cc0, .int), (cc1, .int), (cc2, .int), (cc3, .int), (cc4, .int), (cc5, .int), (cc6, .int), (cc7, .int)]) [0, 1, 2, 3, 4, 5, 6, 7] rfl
  refine W.widen (k := 0) (n := 0) (Nat.le_of_ble_eq_true rfl) (Nat.le_of_ble_eq_true rfl) ?_
  exact W.iret (v := 0) hx hb hr (fun t ht hW => ⟨⟨_, (), rfl, rfl, by rw [ht]; exact hP9, va_K.moved hW.alike hK9, hD9⟩, hS.F ht⟩) hS.2.2 dL_word_23
set_option maxHeartbeats 4000000 in
set_option maxRecDepth 100000 in
theorem kX16_isIn_4 (l : Launch) (dC : Nat → ClassId) (dI : Nat → Nat → Nat) (g : Nat → Nat) (sz : Nat)  : Met l yX16_isIn wsX16_isIn ({ frames := 0, cells := 0, slots := 0, locals := 0 }) (va_Pc [.int 1, .int 1, .int 9] (fun U => U.heap.size = sz ∧ va_P (dC, dI) vwCl [] U.heap ∧ va_K (dC, dI) vwCl [] U ∧ va_D (fun _ => True) [] ∧ ns_F g (va_A [] sz) U U.heap)) (va_Qi (fun (r : Int32) (_ : Unit) => r = 1) (fun _ t => va_P (dC, dI) vwCl [] t.heap ∧ va_K (dC, dI) vwCl [] t ∧ va_D (va_A [] sz) []) (va_A [] sz)) 0 0 (va_A [] sz) := by
  refine Met.ofW (cc := cX16_isIn) (maxL := 3) (ret := (some .boolean)) (by decide) rfl ?_
  intro p e s m args below meth c s₁ B hml hv
  obtain ⟨rfl, hsz, hP, hK, hD0, hF⟩ := hv
  have hx := B.exec
  have hb := B.bytes
  have hr := B.returns
  have hts := atoms_spec (ws := wsX16_isIn) B.pre
  have hown : s.vm.findClass RX16 = some m.cls := findClass_of_methodNamed B.named
  have hlocks := B.notSynchronized
  subst hsz
  have hD := hD0.self (sz := s.heap.size)
  generalize hAe : va_A [] s.heap.size = A at hD hF ⊢
  have hA : ∀ q : Nat, s.heap.size ≤ q → A q := fun q h => by rw [← hAe]; exact Or.inr h
  have hS : va_S A s.heap s.heap [] := va_S.rf
  have hP : va_P (dC, dI) vwCl [] s.heap := hP
  have hl := lv_entry ([.int 1, .int 1, .int 9]) (n := 3) (Nat.le_of_ble_eq_true rfl)
  rw [lg_entry_eq]
  generalize (lg_sl ([.int 1, .int 1, .int 9]) ++ List.replicate (3 - (lg_sl ([.int 1, .int 1, .int 9])).length) Slot.unset).toArray = ls at hl ⊢
  have hl : lv_has ls 3 [(0, .int 1), (1, .int 1), (2, .int 9)] := hl
  refine lv_iload_n hx hb dX16_isIn_0 rfl (lv_at hl 0 rfl) ?_
  refine lv_iload_n hx hb dX16_isIn_1 rfl (lv_at hl 1 rfl) ?_
  refine lv_icmp_lt (tgt := 14) hx hb dX16_isIn_2 (by decide) (fun c1 => absurd c1 (by decide)) (fun c1 => ?_)
  refine lv_iload_n hx hb dX16_isIn_5 rfl (lv_at hl 0 rfl) ?_
  refine lv_iload_n hx hb dX16_isIn_6 rfl (lv_at hl 2 rfl) ?_
  refine lv_icmp_gt (tgt := 14) hx hb dX16_isIn_7 (by decide) (fun c2 => absurd c2 (by decide)) (fun c2 => ?_)
  refine lv_iconst (v := 1) hx hb dX16_isIn_10 (by decide) ?_
  refine lv_goto (tgt := 15) hx hb dX16_isIn_11 (by decide) ?_
  have hP9 := hP.sub (ws' := []) [] rfl
  have hD9 := hD.sub (ws' := []) [] (by decide) rfl
  have hK9 := hK.sub (tys' := []) [] rfl
  refine W.widen (k := 0) (n := 0) (Nat.le_of_ble_eq_true rfl) (Nat.le_of_ble_eq_true rfl) ?_
  exact W.zret (v := 1) hx hb hr (by decide) (fun t ht hW => ⟨⟨_, (), rfl, rfl, by rw [ht]; exact hP9, va_K.moved hW.alike hK9, hD9⟩, hS.F ht⟩) hS.2.2 dX16_isIn_15
set_option maxHeartbeats 4000000 in
set_option maxRecDepth 100000 in
theorem kX16_refuse_2 (l : Launch) (dC : Nat → ClassId) (dI : Nat → Nat → Nat) (g : Nat → Nat) (sz : Nat) (h0 : Nat) (v0 : Value) (v1 : Value) (v2 : Value) (v3 : Value) (v4 : Value) (v5 : Value) (v6 : Value) (v7 : Value) : Met l yX16_refuse wsX16_refuse ({ frames := 0, cells := 0, slots := 0, locals := 0 }) (va_Pc [.ref h0, .int 0, .int 1] (fun U => U.heap.size = sz ∧ va_P (dC, dI) vwCl [(h0, .inr (23, [.int 0, v0, v1, v2, v3, v4, v5, v6, v7]))] U.heap ∧ va_K (dC, dI) vwCl [] U ∧ va_D (fun _ => True) [(h0, .inr (23, [.int 0, v0, v1, v2, v3, v4, v5, v6, v7]))] ∧ ns_F g (va_A [(h0, .inr (23, [.int 0, v0, v1, v2, v3, v4, v5, v6, v7]))] sz) U U.heap)) (va_Qi (fun (r : Int32) (_ : Unit) => r = 0) (fun _ t => va_P (dC, dI) vwCl [(h0, .inr (23, [.int 0, v0, v1, v2, v3, v4, v5, v6, v7]))] t.heap ∧ va_K (dC, dI) vwCl [] t ∧ va_D (va_A [(h0, .inr (23, [.int 0, v0, v1, v2, v3, v4, v5, v6, v7]))] sz) [(h0, .inr (23, [.int 0, v0, v1, v2, v3, v4, v5, v6, v7]))]) (va_A [(h0, .inr (23, [.int 0, v0, v1, v2, v3, v4, v5, v6, v7]))] sz)) 0 0 (va_A [(h0, .inr (23, [.int 0, v0, v1, v2, v3, v4, v5, v6, v7]))] sz) := by
  refine Met.ofW (cc := cX16_refuse) (maxL := 3) (ret := (some .boolean)) (by decide) rfl ?_
  intro p e s m args below meth c s₁ B hml hv
  obtain ⟨rfl, hsz, hP, hK, hD0, hF⟩ := hv
  have hx := B.exec
  have hb := B.bytes
  have hr := B.returns
  have hts := atoms_spec (ws := wsX16_refuse) B.pre
  have hown : s.vm.findClass RX16 = some m.cls := findClass_of_methodNamed B.named
  have hlocks := B.notSynchronized
  subst hsz
  have hD := hD0.self (sz := s.heap.size)
  generalize hAe : va_A [(h0, .inr (23, [.int 0, v0, v1, v2, v3, v4, v5, v6, v7]))] s.heap.size = A at hD hF ⊢
  have hA : ∀ q : Nat, s.heap.size ≤ q → A q := fun q h => by rw [← hAe]; exact Or.inr h
  have hS : va_S A s.heap s.heap [] := va_S.rf
  have hP : va_P (dC, dI) vwCl [(h0, .inr (23, [.int 0, v0, v1, v2, v3, v4, v5, v6, v7]))] s.heap := hP
  have hl := lv_entry ([.ref h0, .int 0, .int 1]) (n := 3) (Nat.le_of_ble_eq_true rfl)
  rw [lg_entry_eq]
  generalize (lg_sl ([.ref h0, .int 0, .int 1]) ++ List.replicate (3 - (lg_sl ([.ref h0, .int 0, .int 1])).length) Slot.unset).toArray = ls at hl ⊢
  have hl : lv_has ls 3 [(0, .ref h0), (1, .int 0), (2, .int 1)] := hl
  refine lv_iload_n hx hb dX16_refuse_0 rfl (lv_at hl 1 rfl) ?_
  refine lv_if_eq (tgt := 16) hx hb dX16_refuse_1 (by decide) (fun c1 => ?_) (fun c1 => absurd (by decide) c1)
  refine lv_aload_n hx hb dX16_refuse_16 rfl (lv_at hl 0 rfl) ?_
  refine va_get (D := (dC, dI)) (ci := 23) (v := .int 0) (C := RX16) (T := TX16) (N := 9) hx hb hts (by decide +kernel) hown hK hP 0 rfl rfl 0 (by decide) (hts (.fieldLink RX16 176 "NestprintModel" "thrown" "I") (by decide +kernel)) (fun _ h9 => h9) rfl dX16_refuse_17 ?_
  refine lv_if_le (tgt := 27) hx hb dX16_refuse_20 (by decide) (fun c2 => ?_) (fun c2 => absurd (by decide) c2)
  refine lv_iconst (v := 0) hx hb dX16_refuse_27 (by decide) ?_
  have hP9 := hP.sub (ws' := [(h0, .inr (23, [.int 0, v0, v1, v2, v3, v4, v5, v6, v7]))]) [0] rfl
  have hD9 := hD.sub (ws' := [(h0, .inr (23, [.int 0, v0, v1, v2, v3, v4, v5, v6, v7]))]) [0] (by decide) rfl
  have hK9 := hK.sub (tys' := []) [] rfl
  refine W.widen (k := 0) (n := 0) (Nat.le_of_ble_eq_true rfl) (Nat.le_of_ble_eq_true rfl) ?_
  exact W.zret (v := 0) hx hb hr (by decide) (fun t ht hW => ⟨⟨_, (), rfl, rfl, by rw [ht]; exact hP9, va_K.moved hW.alike hK9, hD9⟩, hS.F ht⟩) hS.2.2 dX16_refuse_28
set_option maxHeartbeats 4000000 in
set_option maxRecDepth 100000 in
theorem kX16_start_2 (l : Launch) (dC : Nat → ClassId) (dI : Nat → Nat → Nat) (g : Nat → Nat) (sz : Nat) (h0 : Nat) (v0 : Value) (v1 : Value) (v2 : Value) (v3 : Value) (v4 : Value) (v5 : Value) (v6 : Value) (v7 : Value) (v8 : Value) : Met l yX16_start wsX16_start ({ frames := 1, cells := 0, slots := 0, locals := 22 }) (va_Pc [.ref h0, .int 0, .int 1] (fun U => U.heap.size = sz ∧ va_P (dC, dI) vwCl [(h0, .inr (23, [v0, v1, v2, v3, v4, v5, v6, v7, v8]))] U.heap ∧ va_K (dC, dI) vwCl [] U ∧ va_D (fun _ => True) [(h0, .inr (23, [v0, v1, v2, v3, v4, v5, v6, v7, v8]))] ∧ ns_F g (va_A [(h0, .inr (23, [v0, v1, v2, v3, v4, v5, v6, v7, v8]))] sz) U U.heap)) (va_Qi (fun (r : Int32) (_ : Unit) => r = 0) (fun _ t => va_P (dC, dI) vwCl [(h0, .inr (23, [.int 0, v1, v2, v3, v4, v5, v6, v7, v8]))] t.heap ∧ va_K (dC, dI) vwCl [] t ∧ va_D (va_A [(h0, .inr (23, [v0, v1, v2, v3, v4, v5, v6, v7, v8]))] sz) [(h0, .inr (23, [.int 0, v1, v2, v3, v4, v5, v6, v7, v8]))]) (va_A [(h0, .inr (23, [v0, v1, v2, v3, v4, v5, v6, v7, v8]))] sz)) 0 0 (va_A [(h0, .inr (23, [v0, v1, v2, v3, v4, v5, v6, v7, v8]))] sz) := by
  refine Met.ofW (cc := cX16_start) (maxL := 3) (ret := (some .boolean)) (by decide) rfl ?_
  intro p e s m args below meth c s₁ B hml hv
  obtain ⟨rfl, hsz, hP, hK, hD0, hF⟩ := hv
  have hx := B.exec
  have hb := B.bytes
  have hr := B.returns
  have hts := atoms_spec (ws := wsX16_start) B.pre
  have hown : s.vm.findClass RX16 = some m.cls := findClass_of_methodNamed B.named
  have hlocks := B.notSynchronized
  subst hsz
  have hD := hD0.self (sz := s.heap.size)
  generalize hAe : va_A [(h0, .inr (23, [v0, v1, v2, v3, v4, v5, v6, v7, v8]))] s.heap.size = A at hD hF ⊢
  have hA : ∀ q : Nat, s.heap.size ≤ q → A q := fun q h => by rw [← hAe]; exact Or.inr h
  have hS : va_S A s.heap s.heap [] := va_S.rf
  have hP : va_P (dC, dI) vwCl [(h0, .inr (23, [v0, v1, v2, v3, v4, v5, v6, v7, v8]))] s.heap := hP
  have hl := lv_entry ([.ref h0, .int 0, .int 1]) (n := 3) (Nat.le_of_ble_eq_true rfl)
  rw [lg_entry_eq]
  generalize (lg_sl ([.ref h0, .int 0, .int 1]) ++ List.replicate (3 - (lg_sl ([.ref h0, .int 0, .int 1])).length) Slot.unset).toArray = ls at hl ⊢
  have hl : lv_has ls 3 [(0, .ref h0), (1, .int 0), (2, .int 1)] := hl
  refine lv_aload_n hx hb dX16_start_0 rfl (lv_at hl 0 rfl) ?_
  refine lv_iconst (v := 0) hx hb dX16_start_1 (by decide) ?_
  refine va_put (D := (dC, dI)) (ci := 23) (v := .int 0) (ty := .int) (C := RX16) (T := TX16) (N := 9) hx hb hts (by decide +kernel) tyX16 tyX16_ok nmX16 hown hK hP hD hS 0 rfl rfl 0 (by decide) (hts (.fieldLink RX16 176 "NestprintModel" "thrown" "I") (by decide +kernel)) (fun _ h9 => h9) rfl (by decide +kernel) rfl rfl (Nat.le_of_ble_eq_true rfl) dX16_start_2 (fun H locs hP hD hS => ?_)
  have hP : va_P (dC, dI) vwCl [(h0, .inr (23, [.int 0, v1, v2, v3, v4, v5, v6, v7, v8]))] H := hP
  have hD : va_D A [(h0, .inr (23, [.int 0, v1, v2, v3, v4, v5, v6, v7, v8]))] := hD
  refine lv_aload_n hx hb dX16_start_5 rfl (lv_at hl 0 rfl) ?_
  refine lv_iload_n hx hb dX16_start_6 rfl (lv_at hl 1 rfl) ?_
  refine lv_iload_n hx hb dX16_start_7 rfl (lv_at hl 2 rfl) ?_
  have hPc := hP.sub (ws' := [(h0, .inr (23, [.int 0, v1, v2, v3, v4, v5, v6, v7, v8]))]) [0] rfl
  have hDc := hD.sub (ws' := [(h0, .inr (23, [.int 0, v1, v2, v3, v4, v5, v6, v7, v8]))]) [0] (by decide) rfl
  have hKc := hK.sub (tys' := []) [] rfl
  have hFc := va_free (wc := [(h0, .inr (23, [.int 0, v1, v2, v3, v4, v5, v6, v7, v8]))]) hD hS hA [0] rfl
  refine va_calli (va_runV (As := [.int 0, .int 1]) (rest := []) ⟨hx, hb, hml, hown, hts⟩ (kX16_refuse_2 l dC dI g H.size h0 v1 v2 v3 v4 v5 v6 v7 v8 ) (cwV 2 hts gX16_start_X16_refuse rfl rfl rfl (by decide +kernel) ⟨Nat.le_of_ble_eq_true rfl, Nat.le_of_ble_eq_true rfl⟩) ⟨fun a U gg mk q => by obtain ⟨q0, q1, qP, qK, qD, qF⟩ := q; exact ⟨q0, q1, qP, va_K.moved (u := U) (U := U.calling gg mk a) (Vm.Alike.refl U.vm) qK, qD, ns_same qF⟩, va_recv hK hP (ci := 23) (q0 := 0) rfl rfl, fun U hU hW => ⟨rfl, by rw [hU], by rw [hU]; exact hPc, va_K.moved hW.alike hKc, hDc.weaken (fun _ _ _ _ => trivial), ns_call hF hS hFc hU hW⟩⟩ rfl rfl hl.1 rfl (lv_room (Nat.le_of_ble_eq_true rfl)) dX16_start_8 ⟨Nat.le_of_ble_eq_true rfl, Nat.le_of_ble_eq_true rfl⟩) hS (fun q _ h => hFc q h) hFc (fun r9 u t H1 locs ht hvm hw hB hz1 hk1 hS => ?_)
  obtain rfl := hw
  obtain ⟨hP1, hK1, hD1⟩ := hB
  rw [ht] at hP1
  have hK1 := va_K.moved hvm.symm hK1
  obtain ⟨hP, hD⟩ := va_join (wr := []) (w1 := [(h0, .inr (23, [.int 0, v1, v2, v3, v4, v5, v6, v7, v8]))]) hP hD [0] [] rfl rfl (by decide) (by decide) hk1 hFc hP1 hD1
  have hK := (hK.sub (tys' := []) [] rfl).app hK1
  generalize H1 = H at hP hS ⊢
  have hP : va_P (dC, dI) vwCl [(h0, .inr (23, [.int 0, v1, v2, v3, v4, v5, v6, v7, v8]))] H := hP
  have hD : va_D A [(h0, .inr (23, [.int 0, v1, v2, v3, v4, v5, v6, v7, v8]))] := hD
  have hK : va_K (dC, dI) vwCl [] s := hK
  refine W.widen (k := 0) (n := 0) (Nat.le_of_ble_eq_true rfl) (Nat.le_of_ble_eq_true rfl) ?_
  have hP9 := hP.sub (ws' := [(h0, .inr (23, [.int 0, v1, v2, v3, v4, v5, v6, v7, v8]))]) [0] rfl
  have hD9 := hD.sub (ws' := [(h0, .inr (23, [.int 0, v1, v2, v3, v4, v5, v6, v7, v8]))]) [0] (by decide) rfl
  have hK9 := hK.sub (tys' := []) [] rfl
  refine W.widen (k := 0) (n := 0) (Nat.le_of_ble_eq_true rfl) (Nat.le_of_ble_eq_true rfl) ?_
  exact W.zret (v := 0) hx hb hr (by decide) (fun t ht hW => ⟨⟨_, (), rfl, rfl, by rw [ht]; exact hP9, va_K.moved hW.alike hK9, hD9⟩, hS.F ht⟩) hS.2.2 dX16_start_11
set_option maxHeartbeats 4000000 in
set_option maxRecDepth 100000 in
theorem kJx4a65c_size_8abf5 (l : Launch) (dC : Nat → ClassId) (dI : Nat → Nat → Nat) (g : Nat → Nat) (sz : Nat) (h0 : Nat) (v0 : Value) (v1 : Value) : Met l yJx4a65c_size_8abf5 wsJx4a65c_size_8abf5 ({ frames := 0, cells := 0, slots := 0, locals := 0 }) (va_Pc [.ref h0] (fun U => U.heap.size = sz ∧ va_P (dC, dI) vwCl [(h0, .inr (6, [v0, v1, .int 0]))] U.heap ∧ va_K (dC, dI) vwCl [] U ∧ va_D (fun _ => True) [(h0, .inr (6, [v0, v1, .int 0]))] ∧ ns_F g (va_A [(h0, .inr (6, [v0, v1, .int 0]))] sz) U U.heap)) (va_Qi (fun (r : Int32) (_ : Unit) => r = 0) (fun _ t => va_P (dC, dI) vwCl [(h0, .inr (6, [v0, v1, .int 0]))] t.heap ∧ va_K (dC, dI) vwCl [] t ∧ va_D (va_A [(h0, .inr (6, [v0, v1, .int 0]))] sz) [(h0, .inr (6, [v0, v1, .int 0]))]) (va_A [(h0, .inr (6, [v0, v1, .int 0]))] sz)) 0 0 (va_A [(h0, .inr (6, [v0, v1, .int 0]))] sz) := by
  refine Met.ofW (cc := cJx4a65c_size_8abf5) (maxL := 1) (ret := (some .int)) (by decide) rfl ?_
  intro p e s m args below meth c s₁ B hml hv
  obtain ⟨rfl, hsz, hP, hK, hD0, hF⟩ := hv
  have hx := B.exec
  have hb := B.bytes
  have hr := B.returns
  have hts := atoms_spec (ws := wsJx4a65c_size_8abf5) B.pre
  have hown : s.vm.findClass RJx4a65c = some m.cls := findClass_of_methodNamed B.named
  have hlocks := B.notSynchronized
  subst hsz
  have hD := hD0.self (sz := s.heap.size)
  generalize hAe : va_A [(h0, .inr (6, [v0, v1, .int 0]))] s.heap.size = A at hD hF ⊢
  have hA : ∀ q : Nat, s.heap.size ≤ q → A q := fun q h => by rw [← hAe]; exact Or.inr h
  have hS : va_S A s.heap s.heap [] := va_S.rf
  have hP : va_P (dC, dI) vwCl [(h0, .inr (6, [v0, v1, .int 0]))] s.heap := hP
  have hl := lv_entry ([.ref h0]) (n := 1) (Nat.le_of_ble_eq_true rfl)
  rw [lg_entry_eq]
  generalize (lg_sl ([.ref h0]) ++ List.replicate (1 - (lg_sl ([.ref h0])).length) Slot.unset).toArray = ls at hl ⊢
  have hl : lv_has ls 1 [(0, .ref h0)] := hl
  refine lv_aload_n hx hb dJx4a65c_size_8abf5_0 rfl (lv_at hl 0 rfl) ?_
  refine va_get (D := (dC, dI)) (ci := 6) (v := .int 0) (C := RJx4a65c) (T := TJx4a65c) (N := 3) hx hb hts (by decide +kernel) hown hK hP 0 rfl rfl 2 (by decide) (hts (.fieldLink RJx4a65c 48 "java/util/ArrayList" "size" "I") (by decide +kernel)) (fun _ h9 => h9) rfl dJx4a65c_size_8abf5_1 ?_
  have hP9 := hP.sub (ws' := [(h0, .inr (6, [v0, v1, .int 0]))]) [0] rfl
  have hD9 := hD.sub (ws' := [(h0, .inr (6, [v0, v1, .int 0]))]) [0] (by decide) rfl
  have hK9 := hK.sub (tys' := []) [] rfl
  refine W.widen (k := 0) (n := 0) (Nat.le_of_ble_eq_true rfl) (Nat.le_of_ble_eq_true rfl) ?_
  exact W.iret (v := 0) hx hb hr (fun t ht hW => ⟨⟨_, (), rfl, rfl, by rw [ht]; exact hP9, va_K.moved hW.alike hK9, hD9⟩, hS.F ht⟩) hS.2.2 dJx4a65c_size_8abf5_4
set_option maxHeartbeats 4000000 in
set_option maxRecDepth 100000 in
theorem kX16_isFull (l : Launch) (dC : Nat → ClassId) (dI : Nat → Nat → Nat) (g : Nat → Nat) (sz : Nat) (h0 : Nat) (h1 : Nat) (v0 : Value) (v1 : Value) (v2 : Value) (v3 : Value) (v4 : Value) (v5 : Value) (v6 : Value) (v7 : Value) (v8 : Value) (v9 : Value) : Met l yX16_isFull wsX16_isFull ({ frames := 1, cells := 0, slots := 0, locals := 20 }) (va_Pc [.ref h0] (fun U => U.heap.size = sz ∧ va_P (dC, dI) vwCl [(h0, .inr (23, [v0, .ref h1, v1, v2, v3, v4, v5, v6, v7])), (h1, .inr (6, [v8, v9, .int 0]))] U.heap ∧ va_K (dC, dI) vwCl [] U ∧ va_D (fun _ => True) [(h0, .inr (23, [v0, .ref h1, v1, v2, v3, v4, v5, v6, v7])), (h1, .inr (6, [v8, v9, .int 0]))] ∧ ns_F g (va_A [(h0, .inr (23, [v0, .ref h1, v1, v2, v3, v4, v5, v6, v7])), (h1, .inr (6, [v8, v9, .int 0]))] sz) U U.heap)) (va_Qi (fun (r : Int32) (_ : Unit) => r = 0) (fun _ t => va_P (dC, dI) vwCl [(h0, .inr (23, [v0, .ref h1, v1, v2, v3, v4, v5, v6, v7])), (h1, .inr (6, [v8, v9, .int 0]))] t.heap ∧ va_K (dC, dI) vwCl [] t ∧ va_D (va_A [(h0, .inr (23, [v0, .ref h1, v1, v2, v3, v4, v5, v6, v7])), (h1, .inr (6, [v8, v9, .int 0]))] sz) [(h0, .inr (23, [v0, .ref h1, v1, v2, v3, v4, v5, v6, v7])), (h1, .inr (6, [v8, v9, .int 0]))]) (va_A [(h0, .inr (23, [v0, .ref h1, v1, v2, v3, v4, v5, v6, v7])), (h1, .inr (6, [v8, v9, .int 0]))] sz)) 0 0 (va_A [(h0, .inr (23, [v0, .ref h1, v1, v2, v3, v4, v5, v6, v7])), (h1, .inr (6, [v8, v9, .int 0]))] sz) := by
  refine Met.ofW (cc := cX16_isFull) (maxL := 1) (ret := (some .boolean)) (by decide) rfl ?_
  intro p e s m args below meth c s₁ B hml hv
  obtain ⟨rfl, hsz, hP, hK, hD0, hF⟩ := hv
  have hx := B.exec
  have hb := B.bytes
  have hr := B.returns
  have hts := atoms_spec (ws := wsX16_isFull) B.pre
  have hown : s.vm.findClass RX16 = some m.cls := findClass_of_methodNamed B.named
  have hlocks := B.notSynchronized
  subst hsz
  have hD := hD0.self (sz := s.heap.size)
  generalize hAe : va_A [(h0, .inr (23, [v0, .ref h1, v1, v2, v3, v4, v5, v6, v7])), (h1, .inr (6, [v8, v9, .int 0]))] s.heap.size = A at hD hF ⊢
  have hA : ∀ q : Nat, s.heap.size ≤ q → A q := fun q h => by rw [← hAe]; exact Or.inr h
  have hS : va_S A s.heap s.heap [] := va_S.rf
  have hP : va_P (dC, dI) vwCl [(h0, .inr (23, [v0, .ref h1, v1, v2, v3, v4, v5, v6, v7])), (h1, .inr (6, [v8, v9, .int 0]))] s.heap := hP
  have hl := lv_entry ([.ref h0]) (n := 1) (Nat.le_of_ble_eq_true rfl)
  rw [lg_entry_eq]
  generalize (lg_sl ([.ref h0]) ++ List.replicate (1 - (lg_sl ([.ref h0])).length) Slot.unset).toArray = ls at hl ⊢
  have hl : lv_has ls 1 [(0, .ref h0)] := hl
  refine lv_aload_n hx hb dX16_isFull_0 rfl (lv_at hl 0 rfl) ?_
  refine va_get (D := (dC, dI)) (ci := 23) (v := .ref h1) (C := RX16) (T := TX16) (N := 9) hx hb hts (by decide +kernel) hown hK hP 0 rfl rfl 1 (by decide) (hts (.fieldLink RX16 10 "NestprintModel" "nodes" "Ljava/util/ArrayList;") (by decide +kernel)) (fun _ h9 => h9) rfl dX16_isFull_1 ?_
  have hPc := hP.sub (ws' := [(h1, .inr (6, [v8, v9, .int 0]))]) [1] rfl
  have hDc := hD.sub (ws' := [(h1, .inr (6, [v8, v9, .int 0]))]) [1] (by decide) rfl
  have hKc := hK.sub (tys' := []) [] rfl
  have hFc := va_free (wc := [(h1, .inr (6, [v8, v9, .int 0]))]) hD hS hA [1] rfl
  refine va_calli (va_runV (As := []) (rest := []) ⟨hx, hb, hml, hown, hts⟩ (kJx4a65c_size_8abf5 l dC dI g s.heap.size h1 v8 v9 ) (cwV 0 hts gX16_isFull_Jx4a65c_size_8abf5 rfl rfl rfl (by decide +kernel) ⟨Nat.le_of_ble_eq_true rfl, Nat.le_of_ble_eq_true rfl⟩) ⟨fun a U gg mk q => by obtain ⟨q0, q1, qP, qK, qD, qF⟩ := q; exact ⟨q0, q1, qP, va_K.moved (u := U) (U := U.calling gg mk a) (Vm.Alike.refl U.vm) qK, qD, ns_same qF⟩, va_recv hK hP (ci := 6) (q0 := 1) rfl rfl, fun U hU hW => ⟨rfl, by rw [hU], by rw [hU]; exact hPc, va_K.moved hW.alike hKc, hDc.weaken (fun _ _ _ _ => trivial), ns_call hF hS hFc hU hW⟩⟩ rfl rfl hl.1 rfl (lv_room (Nat.le_of_ble_eq_true rfl)) dX16_isFull_4 ⟨Nat.le_of_ble_eq_true rfl, Nat.le_of_ble_eq_true rfl⟩) hS (fun q _ h => hFc q h) hFc (fun r9 u t H1 locs ht hvm hw hB hz1 hk1 hS => ?_)
  obtain rfl := hw
  obtain ⟨hP1, hK1, hD1⟩ := hB
  rw [ht] at hP1
  have hK1 := va_K.moved hvm.symm hK1
  obtain ⟨hP, hD⟩ := va_join (wr := [(h0, .inr (23, [v0, .ref h1, v1, v2, v3, v4, v5, v6, v7]))]) (w1 := [(h1, .inr (6, [v8, v9, .int 0]))]) hP hD [1] [0] rfl rfl (by decide) (by decide) hk1 hFc hP1 hD1
  have hK := (hK.sub (tys' := []) [] rfl).app hK1
  generalize H1 = H at hP hS ⊢
  have hP : va_P (dC, dI) vwCl [(h0, .inr (23, [v0, .ref h1, v1, v2, v3, v4, v5, v6, v7])), (h1, .inr (6, [v8, v9, .int 0]))] H := hP
  have hD : va_D A [(h0, .inr (23, [v0, .ref h1, v1, v2, v3, v4, v5, v6, v7])), (h1, .inr (6, [v8, v9, .int 0]))] := hD
  have hK : va_K (dC, dI) vwCl [] s := hK
  refine W.widen (k := 0) (n := 0) (Nat.le_of_ble_eq_true rfl) (Nat.le_of_ble_eq_true rfl) ?_
  refine lv_bipush (v := 80) hx hb dX16_isFull_7 (by decide) ?_
  refine lv_icmp_ne (tgt := 16) hx hb dX16_isFull_9 (by decide) (fun c1 => ?_) (fun c1 => absurd c1 (by decide))
  refine lv_iconst (v := 0) hx hb dX16_isFull_16 (by decide) ?_
  have hP9 := hP.sub (ws' := [(h0, .inr (23, [v0, .ref h1, v1, v2, v3, v4, v5, v6, v7])), (h1, .inr (6, [v8, v9, .int 0]))]) [0, 1] rfl
  have hD9 := hD.sub (ws' := [(h0, .inr (23, [v0, .ref h1, v1, v2, v3, v4, v5, v6, v7])), (h1, .inr (6, [v8, v9, .int 0]))]) [0, 1] (by decide) rfl
  have hK9 := hK.sub (tys' := []) [] rfl
  refine W.widen (k := 0) (n := 0) (Nat.le_of_ble_eq_true rfl) (Nat.le_of_ble_eq_true rfl) ?_
  exact W.zret (v := 0) hx hb hr (by decide) (fun t ht hW => ⟨⟨_, (), rfl, rfl, by rw [ht]; exact hP9, va_K.moved hW.alike hK9, hD9⟩, hS.F ht⟩) hS.2.2 dX16_isFull_17
set_option maxHeartbeats 4000000 in
set_option maxRecDepth 100000 in
theorem kX16_refuse_3 (l : Launch) (dC : Nat → ClassId) (dI : Nat → Nat → Nat) (g : Nat → Nat) (sz : Nat) (h0 : Nat) (v0 : Value) (v1 : Value) (v2 : Value) (v3 : Value) (v4 : Value) (v5 : Value) (v6 : Value) (v7 : Value) : Met l yX16_refuse wsX16_refuse ({ frames := 0, cells := 0, slots := 0, locals := 0 }) (va_Pc [.ref h0, .int 0, .int 2] (fun U => U.heap.size = sz ∧ va_P (dC, dI) vwCl [(h0, .inr (23, [.int 0, v0, v1, v2, v3, v4, v5, v6, v7]))] U.heap ∧ va_K (dC, dI) vwCl [] U ∧ va_D (fun _ => True) [(h0, .inr (23, [.int 0, v0, v1, v2, v3, v4, v5, v6, v7]))] ∧ ns_F g (va_A [(h0, .inr (23, [.int 0, v0, v1, v2, v3, v4, v5, v6, v7]))] sz) U U.heap)) (va_Qi (fun (r : Int32) (_ : Unit) => r = 0) (fun _ t => va_P (dC, dI) vwCl [(h0, .inr (23, [.int 0, v0, v1, v2, v3, v4, v5, v6, v7]))] t.heap ∧ va_K (dC, dI) vwCl [] t ∧ va_D (va_A [(h0, .inr (23, [.int 0, v0, v1, v2, v3, v4, v5, v6, v7]))] sz) [(h0, .inr (23, [.int 0, v0, v1, v2, v3, v4, v5, v6, v7]))]) (va_A [(h0, .inr (23, [.int 0, v0, v1, v2, v3, v4, v5, v6, v7]))] sz)) 0 0 (va_A [(h0, .inr (23, [.int 0, v0, v1, v2, v3, v4, v5, v6, v7]))] sz) := by
  refine Met.ofW (cc := cX16_refuse) (maxL := 3) (ret := (some .boolean)) (by decide) rfl ?_
  intro p e s m args below meth c s₁ B hml hv
  obtain ⟨rfl, hsz, hP, hK, hD0, hF⟩ := hv
  have hx := B.exec
  have hb := B.bytes
  have hr := B.returns
  have hts := atoms_spec (ws := wsX16_refuse) B.pre
  have hown : s.vm.findClass RX16 = some m.cls := findClass_of_methodNamed B.named
  have hlocks := B.notSynchronized
  subst hsz
  have hD := hD0.self (sz := s.heap.size)
  generalize hAe : va_A [(h0, .inr (23, [.int 0, v0, v1, v2, v3, v4, v5, v6, v7]))] s.heap.size = A at hD hF ⊢
  have hA : ∀ q : Nat, s.heap.size ≤ q → A q := fun q h => by rw [← hAe]; exact Or.inr h
  have hS : va_S A s.heap s.heap [] := va_S.rf
  have hP : va_P (dC, dI) vwCl [(h0, .inr (23, [.int 0, v0, v1, v2, v3, v4, v5, v6, v7]))] s.heap := hP
  have hl := lv_entry ([.ref h0, .int 0, .int 2]) (n := 3) (Nat.le_of_ble_eq_true rfl)
  rw [lg_entry_eq]
  generalize (lg_sl ([.ref h0, .int 0, .int 2]) ++ List.replicate (3 - (lg_sl ([.ref h0, .int 0, .int 2])).length) Slot.unset).toArray = ls at hl ⊢
  have hl : lv_has ls 3 [(0, .ref h0), (1, .int 0), (2, .int 2)] := hl
  refine lv_iload_n hx hb dX16_refuse_0 rfl (lv_at hl 1 rfl) ?_
  refine lv_if_eq (tgt := 16) hx hb dX16_refuse_1 (by decide) (fun c1 => ?_) (fun c1 => absurd (by decide) c1)
  refine lv_aload_n hx hb dX16_refuse_16 rfl (lv_at hl 0 rfl) ?_
  refine va_get (D := (dC, dI)) (ci := 23) (v := .int 0) (C := RX16) (T := TX16) (N := 9) hx hb hts (by decide +kernel) hown hK hP 0 rfl rfl 0 (by decide) (hts (.fieldLink RX16 176 "NestprintModel" "thrown" "I") (by decide +kernel)) (fun _ h9 => h9) rfl dX16_refuse_17 ?_
  refine lv_if_le (tgt := 27) hx hb dX16_refuse_20 (by decide) (fun c2 => ?_) (fun c2 => absurd (by decide) c2)
  refine lv_iconst (v := 0) hx hb dX16_refuse_27 (by decide) ?_
  have hP9 := hP.sub (ws' := [(h0, .inr (23, [.int 0, v0, v1, v2, v3, v4, v5, v6, v7]))]) [0] rfl
  have hD9 := hD.sub (ws' := [(h0, .inr (23, [.int 0, v0, v1, v2, v3, v4, v5, v6, v7]))]) [0] (by decide) rfl
  have hK9 := hK.sub (tys' := []) [] rfl
  refine W.widen (k := 0) (n := 0) (Nat.le_of_ble_eq_true rfl) (Nat.le_of_ble_eq_true rfl) ?_
  exact W.zret (v := 0) hx hb hr (by decide) (fun t ht hW => ⟨⟨_, (), rfl, rfl, by rw [ht]; exact hP9, va_K.moved hW.alike hK9, hD9⟩, hS.F ht⟩) hS.2.2 dX16_refuse_28
set_option maxHeartbeats 4000000 in
set_option maxRecDepth 100000 in
theorem kX9_mark (l : Launch) (dC : Nat → ClassId) (dI : Nat → Nat → Nat) (g : Nat → Nat) (sz : Nat) (h0 : Nat) (x0 : Int32) (ex0 : (-2147483648 : Int) ≤ x0.toInt ∧ x0.toInt ≤ (0 : Int)) (hlt : l.stackTraces = false) : vx_Met l yX9_mark wsX9_mark ({ frames := 6, cells := 1, slots := 6, locals := 82 }) (va_Pc [.ref h0, .int x0] (fun U => U.heap.size = sz ∧ va_P (dC, dI) vwCl [] U.heap ∧ va_K (dC, dI) vwCl [] U ∧ va_D (fun _ => True) [] ∧ ns_F g (va_A [] sz) U U.heap)) (va_Qv (fun _ : Unit => False) (fun _ _ => True) (va_A [] sz)) (vx_X (fun _ : Unit => True) (fun E _ _ => E = "java/lang/IllegalArgumentException") (va_A [] sz)) 1 6 (va_A [] sz) := by
  refine vx_ofW (cc := cX9_mark) (maxL := 2) (ret := (some .int)) (by decide) rfl ?_
  intro p e s m args below meth c s₁ B hml hnox hv
  obtain ⟨rfl, hsz, hP, hK, hD0, hF⟩ := hv
  have hx := B.exec
  have hb := B.bytes
  have hr := B.returns
  have hts := atoms_spec (ws := wsX9_mark) B.pre
  have hown : s.vm.findClass RX9 = some m.cls := findClass_of_methodNamed B.named
  have hlocks := B.notSynchronized
  subst hsz
  have hD := hD0.self (sz := s.heap.size)
  generalize hAe : va_A [] s.heap.size = A at hD hF ⊢
  have hA : ∀ q : Nat, s.heap.size ≤ q → A q := fun q h => by rw [← hAe]; exact Or.inr h
  have hS : va_S A s.heap s.heap [] := va_S.rf
  have hP : va_P (dC, dI) vwCl [] s.heap := hP
  have hl := lv_entry ([.ref h0, .int x0]) (n := 2) (Nat.le_of_ble_eq_true rfl)
  rw [lg_entry_eq]
  generalize (lg_sl ([.ref h0, .int x0]) ++ List.replicate (2 - (lg_sl ([.ref h0, .int x0])).length) Slot.unset).toArray = ls at hl ⊢
  have hl : lv_has ls 2 [(0, .ref h0), (1, .int x0)] := hl
  refine lv_iload_n hx hb dX9_mark_0 rfl (lv_at hl 1 rfl) ?_
  refine lv_iconst (v := 1) hx hb dX9_mark_1 (by decide) ?_
  refine lv_icmp_lt (tgt := 10) hx hb dX9_mark_2 (by decide) (fun c1 => ?_) (fun c1 => absurd (Int32.lt_iff_toInt_lt.mpr (show x0.toInt < (1 : Int) by omega)) c1)
  exact vx_throwS hx hb hlt (text := "kind is 1 to 4") (sa := (g 14)) (names := ["java/lang/RuntimeException", "java/lang/Exception"]) hown (by decide) (by decide) (hts (.classLink RX9 100 "java/lang/IllegalArgumentException") (by decide +kernel)) (hts (.initialized "java/lang/IllegalArgumentException") (by decide +kernel)) (ns_f22 hF) (vx_hat (B := [.declares ⟨"java/lang/RuntimeException", "<init>", "(Ljava/lang/String;)V"⟩, .declares ⟨"java/lang/Exception", "<init>", "(Ljava/lang/String;)V"⟩, .declares ⟨"java/lang/Throwable", "<init>", "(Ljava/lang/String;)V"⟩, .castable "java/lang/IllegalArgumentException" "java/lang/IllegalArgumentException"]) (fun w9 h9 => hts w9 (List.mem_cons_of_mem _ ((fun h9 => List.mem_append_left _ (List.mem_append_left _ (List.mem_append_right _ h9))) h9))) (by decide +kernel) (vx_c (va_Nw.use rfl (ns_f12 hF)) (vx_c (va_Nw.use rfl (ns_f13 hF)) (vx_c (va_Nw.use rfl (ns_f14 hF)) (vx_c (va_Nw.use rfl (ns_f11 hF)) vx_n))))) (by decide +kernel) (ns_f17 hF) (ns_f18 hF) hS (by rw [hml]; exact hl.1) dX9_mark_10 dX9_mark_13 dX9_mark_14 dX9_mark_16 dX9_mark_19 (fun x hx => (hnox x hx).elim) (Nat.le_of_ble_eq_true rfl) (Nat.le_of_ble_eq_true rfl) (Nat.le_of_ble_eq_true rfl) (Nat.le_of_ble_eq_true rfl) hlocks (fun t9 hal hsz9 hk9 => ⟨(), trivial, rfl, Nat.le_trans hS.1 hsz9, fun q hq1 hq2 => (hk9 q (Nat.lt_of_lt_of_le hq1 hS.1)).trans (hS.2.1 q hq1 hq2)⟩) hS.2.2 (Nat.le_of_ble_eq_true rfl) (Nat.le_of_ble_eq_true rfl)
set_option maxHeartbeats 4000000 in
set_option maxRecDepth 100000 in
theorem kL_mark (l : Launch) (dC : Nat → ClassId) (dI : Nat → Nat → Nat) (g : Nat → Nat) (sz : Nat) (h0 : Nat) (x0 : Int32) (h1 : Nat) (v0 : Value) (v1 : Value) (v2 : Value) (v3 : Value) (v4 : Value) (v5 : Value) (v6 : Value) (v7 : Value) (v8 : Value) (v9 : Value) (v10 : Value) (v11 : Value) (v12 : Value) (v13 : Value) (v14 : Value) (v15 : Value) (ex0 : (-2147483648 : Int) ≤ x0.toInt ∧ x0.toInt ≤ (0 : Int)) (hlt : l.stackTraces = false) : Met l yL_mark wsL_mark ({ frames := 7, cells := 1, slots := 6, locals := 103 }) (va_Pc [.ref h0, .int x0, .ref h1] (fun U => U.heap.size = sz ∧ va_P (dC, dI) vwCl [(h0, .inr (16, [v0, v1, v2, v3, v4, v5, v6, v7, v8, v9, v10, v11, v12, v13, v14, v15]))] U.heap ∧ va_K (dC, dI) vwCl [] U ∧ va_D (fun _ => True) [(h0, .inr (16, [v0, v1, v2, v3, v4, v5, v6, v7, v8, v9, v10, v11, v12, v13, v14, v15]))] ∧ ns_F g (va_A [(h0, .inr (16, [v0, v1, v2, v3, v4, v5, v6, v7, v8, v9, v10, v11, v12, v13, v14, v15]))] sz) U U.heap)) (va_Qi (fun (r : Int32) (_ : Unit) => r = 1) (fun _ t => va_P (dC, dI) vwCl [(h0, .inr (16, [v0, v1, v2, v3, v4, v5, v6, v7, v8, v9, v10, v11, v12, v13, v14, v15]))] t.heap ∧ va_K (dC, dI) vwCl [] t ∧ va_D (va_A [(h0, .inr (16, [v0, v1, v2, v3, v4, v5, v6, v7, v8, v9, v10, v11, v12, v13, v14, v15]))] sz) [(h0, .inr (16, [v0, v1, v2, v3, v4, v5, v6, v7, v8, v9, v10, v11, v12, v13, v14, v15]))]) (va_A [(h0, .inr (16, [v0, v1, v2, v3, v4, v5, v6, v7, v8, v9, v10, v11, v12, v13, v14, v15]))] sz)) 1 6 (va_A [(h0, .inr (16, [v0, v1, v2, v3, v4, v5, v6, v7, v8, v9, v10, v11, v12, v13, v14, v15]))] sz) := by
  refine va_MetW (cc := cL_mark) (maxL := 4) (ret := (some .int)) (hh := [(0, 10, 13, 19), (0, 10, 16, 21)]) (by decide) rfl ?_
  intro p e s m args below meth c s₁ B hml hv
  obtain ⟨rfl, hsz, hP, hK, hD0, hF⟩ := hv
  have hx := B.exec
  have hb := B.bytes
  have hr := B.returns
  have hts := atoms_spec (ws := wsL_mark) B.pre
  have hown : s.vm.findClass RL = some m.cls := findClass_of_methodNamed B.named
  have hlocks := B.notSynchronized
  have htab : c.exceptionTable.toList = [⟨0, 10, 13, 19⟩, ⟨0, 10, 16, 21⟩] := vx_table B (hts _ List.mem_cons_self)
  subst hsz
  have hD := hD0.self (sz := s.heap.size)
  generalize hAe : va_A [(h0, .inr (16, [v0, v1, v2, v3, v4, v5, v6, v7, v8, v9, v10, v11, v12, v13, v14, v15]))] s.heap.size = A at hD hF ⊢
  have hA : ∀ q : Nat, s.heap.size ≤ q → A q := fun q h => by rw [← hAe]; exact Or.inr h
  have hS : va_S A s.heap s.heap [] := va_S.rf
  have hP : va_P (dC, dI) vwCl [(h0, .inr (16, [v0, v1, v2, v3, v4, v5, v6, v7, v8, v9, v10, v11, v12, v13, v14, v15]))] s.heap := hP
  have hl := lv_entry ([.ref h0, .int x0, .ref h1]) (n := 4) (Nat.le_of_ble_eq_true rfl)
  rw [lg_entry_eq]
  generalize (lg_sl ([.ref h0, .int x0, .ref h1]) ++ List.replicate (4 - (lg_sl ([.ref h0, .int x0, .ref h1])).length) Slot.unset).toArray = ls at hl ⊢
  have hl : lv_has ls 4 [(0, .ref h0), (1, .int x0), (2, .ref h1)] := hl
  refine lv_aload_n hx hb dL_mark_0 rfl (lv_at hl 2 rfl) ?_
  refine lv_aload_n hx hb dL_mark_1 rfl (lv_at hl 0 rfl) ?_
  refine lv_iload_n hx hb dL_mark_2 rfl (lv_at hl 1 rfl) ?_
  have hPc := hP.sub (ws' := []) [] rfl
  have hDc := hD.sub (ws' := []) [] (by decide) rfl
  have hKc := hK.sub (tys' := []) [] rfl
  have hFc := va_free (wc := []) hD hS hA [] rfl
  refine vx_callv (vx_runV (As := [.int x0]) (rest := [.ref h1]) ⟨hx, hb, hml, hown, hts⟩ (kX9_mark l dC dI g s.heap.size h0 x0 ⟨by omega, by omega⟩ hlt) (cwV 1 hts gL_mark_X9_mark rfl rfl rfl (by decide +kernel) ⟨Nat.le_of_ble_eq_true rfl, Nat.le_of_ble_eq_true rfl⟩) ⟨fun a U gg mk q => by obtain ⟨q0, q1, qP, qK, qD, qF⟩ := q; exact ⟨q0, q1, qP, va_K.moved (u := U) (U := U.calling gg mk a) (Vm.Alike.refl U.vm) qK, qD, ns_same qF⟩, va_recv hK hP (ci := 16) (q0 := 0) rfl rfl, fun U hU hW => ⟨rfl, by rw [hU], by rw [hU]; exact hPc, va_K.moved hW.alike hKc, hDc.weaken (fun _ _ _ _ => trivial), ns_call hF hS hFc hU hW⟩⟩ rfl rfl hl.1 rfl (lv_room (Nat.le_of_ble_eq_true rfl)) dL_mark_3 ⟨Nat.le_of_ble_eq_true rfl, Nat.le_of_ble_eq_true rfl⟩) hS (fun q _ h => hFc q h) hFc (fun q _ h => hFc q h) (fun E ce q9 u t H1 locs ht hvm hw hB hz1 hk1 hS hc1 hc2 hc3 => ?_) (fun _ _ _ _ _ _ hw _ _ _ _ => False.elim hw)
  obtain rfl : E = "java/lang/IllegalArgumentException" := hB
  obtain ⟨hP, hD⟩ := va_join (wr := [(h0, .inr (16, [v0, v1, v2, v3, v4, v5, v6, v7, v8, v9, v10, v11, v12, v13, v14, v15]))]) (w1 := []) hP hD [] [0] rfl rfl (by decide) (by decide) hk1 hFc (fun k q h => by simp at h) ⟨fun i j p q h => by simp at h, fun k q h => by simp at h⟩
  have hK := hK.sub (tys' := []) [] rfl
  generalize H1 = H at hP hS hc1 ⊢
  have hP : va_P (dC, dI) vwCl [(h0, .inr (16, [v0, v1, v2, v3, v4, v5, v6, v7, v8, v9, v10, v11, v12, v13, v14, v15]))] H := hP
  have hD : va_D A [(h0, .inr (16, [v0, v1, v2, v3, v4, v5, v6, v7, v8, v9, v10, v11, v12, v13, v14, v15]))] := hD
  have hK : va_K (dC, dI) vwCl [] s := hK
  refine vx_widen (k := 1) (n := 6) (Nat.le_of_ble_eq_true rfl) (Nat.le_of_ble_eq_true rfl) ?_
  refine vx_catch hown [] ⟨0, 10, 13, 19⟩ [⟨0, 10, 16, 21⟩] htab (fun z hz => by simp at hz) (by decide) (by decide) (hts (.classLink RL 19 "java/lang/IllegalArgumentException") (by decide +kernel)) (va_Nw.use rfl (ns_f11 hF)) hc1 hc2 hc3 ?_
  refine W.eq (g2 := F0 m 13 ls [.ref q9]) rfl ?_
  refine lv_astore_n (lv' := [(3, .ref q9), (0, .ref h0), (1, .int x0), (2, .ref h1)]) hx hb dL_mark_13 rfl hl (by decide) rfl (fun ls hl => ?_)
  refine lv_iconst (v := 1) hx hb dL_mark_14 (by decide) ?_
  have hP9 := hP.sub (ws' := [(h0, .inr (16, [v0, v1, v2, v3, v4, v5, v6, v7, v8, v9, v10, v11, v12, v13, v14, v15]))]) [0] rfl
  have hD9 := hD.sub (ws' := [(h0, .inr (16, [v0, v1, v2, v3, v4, v5, v6, v7, v8, v9, v10, v11, v12, v13, v14, v15]))]) [0] (by decide) rfl
  have hK9 := hK.sub (tys' := []) [] rfl
  refine W.widen (k := 1) (n := 6) (Nat.le_of_ble_eq_true rfl) (Nat.le_of_ble_eq_true rfl) ?_
  exact W.iret (v := 1) hx hb hr (fun t ht hW => ⟨⟨_, (), rfl, rfl, by rw [ht]; exact hP9, va_K.moved hW.alike hK9, hD9⟩, hS.F ht⟩) hS.2.2 dL_mark_15
set_option maxHeartbeats 4000000 in
set_option maxRecDepth 100000 in
theorem kX16_isIn_5 (l : Launch) (dC : Nat → ClassId) (dI : Nat → Nat → Nat) (g : Nat → Nat) (sz : Nat) (x0 : Int32) (ex0 : (-2147483648 : Int) ≤ x0.toInt ∧ x0.toInt ≤ (0 : Int)) : Met l yX16_isIn wsX16_isIn ({ frames := 0, cells := 0, slots := 0, locals := 0 }) (va_Pc [.int x0, .int 1, .int 4] (fun U => U.heap.size = sz ∧ va_P (dC, dI) vwCl [] U.heap ∧ va_K (dC, dI) vwCl [] U ∧ va_D (fun _ => True) [] ∧ ns_F g (va_A [] sz) U U.heap)) (va_Qi (fun (r : Int32) (_ : Unit) => r = 0) (fun _ t => va_P (dC, dI) vwCl [] t.heap ∧ va_K (dC, dI) vwCl [] t ∧ va_D (va_A [] sz) []) (va_A [] sz)) 0 0 (va_A [] sz) := by
  refine Met.ofW (cc := cX16_isIn) (maxL := 3) (ret := (some .boolean)) (by decide) rfl ?_
  intro p e s m args below meth c s₁ B hml hv
  obtain ⟨rfl, hsz, hP, hK, hD0, hF⟩ := hv
  have hx := B.exec
  have hb := B.bytes
  have hr := B.returns
  have hts := atoms_spec (ws := wsX16_isIn) B.pre
  have hown : s.vm.findClass RX16 = some m.cls := findClass_of_methodNamed B.named
  have hlocks := B.notSynchronized
  subst hsz
  have hD := hD0.self (sz := s.heap.size)
  generalize hAe : va_A [] s.heap.size = A at hD hF ⊢
  have hA : ∀ q : Nat, s.heap.size ≤ q → A q := fun q h => by rw [← hAe]; exact Or.inr h
  have hS : va_S A s.heap s.heap [] := va_S.rf
  have hP : va_P (dC, dI) vwCl [] s.heap := hP
  have hl := lv_entry ([.int x0, .int 1, .int 4]) (n := 3) (Nat.le_of_ble_eq_true rfl)
  rw [lg_entry_eq]
  generalize (lg_sl ([.int x0, .int 1, .int 4]) ++ List.replicate (3 - (lg_sl ([.int x0, .int 1, .int 4])).length) Slot.unset).toArray = ls at hl ⊢
  have hl : lv_has ls 3 [(0, .int x0), (1, .int 1), (2, .int 4)] := hl
  refine lv_iload_n hx hb dX16_isIn_0 rfl (lv_at hl 0 rfl) ?_
  refine lv_iload_n hx hb dX16_isIn_1 rfl (lv_at hl 1 rfl) ?_
  refine lv_icmp_lt (tgt := 14) hx hb dX16_isIn_2 (by decide) (fun c1 => ?_) (fun c1 => absurd (Int32.lt_iff_toInt_lt.mpr (show x0.toInt < (1 : Int) by omega)) c1)
  refine lv_iconst (v := 0) hx hb dX16_isIn_14 (by decide) ?_
  have hP9 := hP.sub (ws' := []) [] rfl
  have hD9 := hD.sub (ws' := []) [] (by decide) rfl
  have hK9 := hK.sub (tys' := []) [] rfl
  refine W.widen (k := 0) (n := 0) (Nat.le_of_ble_eq_true rfl) (Nat.le_of_ble_eq_true rfl) ?_
  exact W.zret (v := 0) hx hb hr (by decide) (fun t ht hW => ⟨⟨_, (), rfl, rfl, by rw [ht]; exact hP9, va_K.moved hW.alike hK9, hD9⟩, hS.F ht⟩) hS.2.2 dX16_isIn_15
set_option maxHeartbeats 4000000 in
set_option maxRecDepth 100000 in
theorem kX16_mark (l : Launch) (dC : Nat → ClassId) (dI : Nat → Nat → Nat) (g : Nat → Nat) (sz : Nat) (h0 : Nat) (x0 : Int32) (v0 : Value) (v1 : Value) (v2 : Value) (v3 : Value) (v4 : Value) (v5 : Value) (v6 : Value) (v7 : Value) (v8 : Value) (ex0 : (-2147483648 : Int) ≤ x0.toInt ∧ x0.toInt ≤ (0 : Int)) : Met l yX16_mark wsX16_mark ({ frames := 2, cells := 0, slots := 0, locals := 44 }) (va_Pc [.ref h0, .int x0] (fun U => U.heap.size = sz ∧ va_P (dC, dI) vwCl [(h0, .inr (23, [v0, v1, v2, v3, v4, v5, v6, v7, v8]))] U.heap ∧ va_K (dC, dI) vwCl [] U ∧ va_D (fun _ => True) [(h0, .inr (23, [v0, v1, v2, v3, v4, v5, v6, v7, v8]))] ∧ ns_F g (va_A [(h0, .inr (23, [v0, v1, v2, v3, v4, v5, v6, v7, v8]))] sz) U U.heap)) (va_Qi (fun (r : Int32) (_ : Unit) => r = 0) (fun _ t => va_P (dC, dI) vwCl [(h0, .inr (23, [.int 1, v1, v2, v3, v4, v5, v6, v7, v8]))] t.heap ∧ va_K (dC, dI) vwCl [] t ∧ va_D (va_A [(h0, .inr (23, [v0, v1, v2, v3, v4, v5, v6, v7, v8]))] sz) [(h0, .inr (23, [.int 1, v1, v2, v3, v4, v5, v6, v7, v8]))]) (va_A [(h0, .inr (23, [v0, v1, v2, v3, v4, v5, v6, v7, v8]))] sz)) 0 0 (va_A [(h0, .inr (23, [v0, v1, v2, v3, v4, v5, v6, v7, v8]))] sz) := by
  refine Met.ofW (cc := cX16_mark) (maxL := 2) (ret := (some .int)) (by decide) rfl ?_
  intro p e s m args below meth c s₁ B hml hv
  obtain ⟨rfl, hsz, hP, hK, hD0, hF⟩ := hv
  have hx := B.exec
  have hb := B.bytes
  have hr := B.returns
  have hts := atoms_spec (ws := wsX16_mark) B.pre
  have hown : s.vm.findClass RX16 = some m.cls := findClass_of_methodNamed B.named
  have hlocks := B.notSynchronized
  subst hsz
  have hD := hD0.self (sz := s.heap.size)
  generalize hAe : va_A [(h0, .inr (23, [v0, v1, v2, v3, v4, v5, v6, v7, v8]))] s.heap.size = A at hD hF ⊢
  have hA : ∀ q : Nat, s.heap.size ≤ q → A q := fun q h => by rw [← hAe]; exact Or.inr h
  have hS : va_S A s.heap s.heap [] := va_S.rf
  have hP : va_P (dC, dI) vwCl [(h0, .inr (23, [v0, v1, v2, v3, v4, v5, v6, v7, v8]))] s.heap := hP
  have hl := lv_entry ([.ref h0, .int x0]) (n := 2) (Nat.le_of_ble_eq_true rfl)
  rw [lg_entry_eq]
  generalize (lg_sl ([.ref h0, .int x0]) ++ List.replicate (2 - (lg_sl ([.ref h0, .int x0])).length) Slot.unset).toArray = ls at hl ⊢
  have hl : lv_has ls 2 [(0, .ref h0), (1, .int x0)] := hl
  refine lv_aload_n hx hb dX16_mark_0 rfl (lv_at hl 0 rfl) ?_
  refine lv_iload_n hx hb dX16_mark_1 rfl (lv_at hl 1 rfl) ?_
  refine lv_iconst (v := 1) hx hb dX16_mark_2 (by decide) ?_
  refine lv_iconst (v := 4) hx hb dX16_mark_3 (by decide) ?_
  have hPc := hP.sub (ws' := []) [] rfl
  have hDc := hD.sub (ws' := []) [] (by decide) rfl
  have hKc := hK.sub (tys' := []) [] rfl
  have hFc := va_free (wc := []) hD hS hA [] rfl
  refine va_calli (va_runS (As := [.int x0, .int 1, .int 4]) (rest := [.ref h0]) ⟨hx, hb, hml, hown, hts⟩ (kX16_isIn_5 l dC dI g s.heap.size x0 ⟨by omega, by omega⟩) (va_cwS 3 hts gX16_mark_X16_isIn rfl rfl rfl (by decide +kernel) ⟨Nat.le_of_ble_eq_true rfl, Nat.le_of_ble_eq_true rfl⟩) ⟨fun a U gg mk q => by obtain ⟨q0, q1, qP, qK, qD, qF⟩ := q; exact ⟨q0, q1, qP, va_K.moved (u := U) (U := U.calling gg mk a) (Vm.Alike.refl U.vm) qK, qD, ns_same qF⟩, fun U hU hW => ⟨rfl, by rw [hU], by rw [hU]; exact hPc, va_K.moved hW.alike hKc, hDc.weaken (fun _ _ _ _ => trivial), ns_call hF hS hFc hU hW⟩⟩ rfl rfl hl.1 rfl (lv_room (Nat.le_of_ble_eq_true rfl)) dX16_mark_4 ⟨Nat.le_of_ble_eq_true rfl, Nat.le_of_ble_eq_true rfl⟩) hS (fun q _ h => hFc q h) hFc (fun r9 u t H1 locs ht hvm hw hB hz1 hk1 hS => ?_)
  obtain rfl := hw
  obtain ⟨hP1, hK1, hD1⟩ := hB
  rw [ht] at hP1
  have hK1 := va_K.moved hvm.symm hK1
  obtain ⟨hP, hD⟩ := va_join (wr := [(h0, .inr (23, [v0, v1, v2, v3, v4, v5, v6, v7, v8]))]) (w1 := []) hP hD [] [0] rfl rfl (by decide) (by decide) hk1 hFc hP1 hD1
  have hK := (hK.sub (tys' := []) [] rfl).app hK1
  generalize H1 = H at hP hS ⊢
  have hP : va_P (dC, dI) vwCl [(h0, .inr (23, [v0, v1, v2, v3, v4, v5, v6, v7, v8]))] H := hP
  have hD : va_D A [(h0, .inr (23, [v0, v1, v2, v3, v4, v5, v6, v7, v8]))] := hD
  have hK : va_K (dC, dI) vwCl [] s := hK
  refine W.widen (k := 0) (n := 0) (Nat.le_of_ble_eq_true rfl) (Nat.le_of_ble_eq_true rfl) ?_
  refine lv_if_ne (tgt := 14) hx hb dX16_mark_7 (by decide) (fun c1 => absurd (by decide) c1) (fun c1 => ?_)
  refine lv_iconst (v := 1) hx hb dX16_mark_10 (by decide) ?_
  refine lv_goto (tgt := 15) hx hb dX16_mark_11 (by decide) ?_
  refine lv_iconst (v := 1) hx hb dX16_mark_15 (by decide) ?_
  have hPc := hP.sub (ws' := [(h0, .inr (23, [v0, v1, v2, v3, v4, v5, v6, v7, v8]))]) [0] rfl
  have hDc := hD.sub (ws' := [(h0, .inr (23, [v0, v1, v2, v3, v4, v5, v6, v7, v8]))]) [0] (by decide) rfl
  have hKc := hK.sub (tys' := []) [] rfl
  have hFc := va_free (wc := [(h0, .inr (23, [v0, v1, v2, v3, v4, v5, v6, v7, v8]))]) hD hS hA [0] rfl
  refine va_calli (va_runV (As := [.int 1, .int 1]) (rest := []) ⟨hx, hb, hml, hown, hts⟩ (kX16_start l dC dI g H.size h0 v0 v1 v2 v3 v4 v5 v6 v7 v8 ) (cwV 2 hts gX16_mark_X16_start rfl rfl rfl (by decide +kernel) ⟨Nat.le_of_ble_eq_true rfl, Nat.le_of_ble_eq_true rfl⟩) ⟨fun a U gg mk q => by obtain ⟨q0, q1, qP, qK, qD, qF⟩ := q; exact ⟨q0, q1, qP, va_K.moved (u := U) (U := U.calling gg mk a) (Vm.Alike.refl U.vm) qK, qD, ns_same qF⟩, va_recv hK hP (ci := 23) (q0 := 0) rfl rfl, fun U hU hW => ⟨rfl, by rw [hU], by rw [hU]; exact hPc, va_K.moved hW.alike hKc, hDc.weaken (fun _ _ _ _ => trivial), ns_call hF hS hFc hU hW⟩⟩ rfl rfl hl.1 rfl (lv_room (Nat.le_of_ble_eq_true rfl)) dX16_mark_16 ⟨Nat.le_of_ble_eq_true rfl, Nat.le_of_ble_eq_true rfl⟩) hS (fun q _ h => hFc q h) hFc (fun r9 u t H1 locs ht hvm hw hB hz1 hk1 hS => ?_)
  obtain rfl := hw
  obtain ⟨hP1, hK1, hD1⟩ := hB
  rw [ht] at hP1
  have hK1 := va_K.moved hvm.symm hK1
  obtain ⟨hP, hD⟩ := va_join (wr := []) (w1 := [(h0, .inr (23, [.int 1, v1, v2, v3, v4, v5, v6, v7, v8]))]) hP hD [0] [] rfl rfl (by decide) (by decide) hk1 hFc hP1 hD1
  have hK := (hK.sub (tys' := []) [] rfl).app hK1
  generalize H1 = H at hP hS ⊢
  have hP : va_P (dC, dI) vwCl [(h0, .inr (23, [.int 1, v1, v2, v3, v4, v5, v6, v7, v8]))] H := hP
  have hD : va_D A [(h0, .inr (23, [.int 1, v1, v2, v3, v4, v5, v6, v7, v8]))] := hD
  have hK : va_K (dC, dI) vwCl [] s := hK
  refine W.widen (k := 0) (n := 0) (Nat.le_of_ble_eq_true rfl) (Nat.le_of_ble_eq_true rfl) ?_
  refine lv_if_ne (tgt := 34) hx hb dX16_mark_19 (by decide) (fun c2 => ?_) (fun c2 => absurd c2 (by decide))
  refine lv_iconst (v := 0) hx hb dX16_mark_34 (by decide) ?_
  refine lv_goto (tgt := 53) hx hb dX16_mark_35 (by decide) ?_
  have hP9 := hP.sub (ws' := [(h0, .inr (23, [.int 1, v1, v2, v3, v4, v5, v6, v7, v8]))]) [0] rfl
  have hD9 := hD.sub (ws' := [(h0, .inr (23, [.int 1, v1, v2, v3, v4, v5, v6, v7, v8]))]) [0] (by decide) rfl
  have hK9 := hK.sub (tys' := []) [] rfl
  refine W.widen (k := 0) (n := 0) (Nat.le_of_ble_eq_true rfl) (Nat.le_of_ble_eq_true rfl) ?_
  exact W.iret (v := 0) hx hb hr (fun t ht hW => ⟨⟨_, (), rfl, rfl, by rw [ht]; exact hP9, va_K.moved hW.alike hK9, hD9⟩, hS.F ht⟩) hS.2.2 dX16_mark_53
set_option maxHeartbeats 4000000 in
set_option maxRecDepth 100000 in
theorem kX4_add_5 (l : Launch) (dC : Nat → ClassId) (dI : Nat → Nat → Nat) (g : Nat → Nat) (sz : Nat) (h0 : Nat) (x0 : Int32) (h1 : Nat) (cc0 : ClassId) (f0 : Nat → Int32) (ex0 : (1 : Int) ≤ x0.toInt ∧ x0.toInt ≤ (4 : Int)) : Met l yX4_add wsX4_add ({ frames := 0, cells := 0, slots := 0, locals := 0 }) (va_Pc [.ref h0, .int x0] (fun U => U.heap.size = sz ∧ va_P (dC, dI) vwCl [(h0, .inr (11, [.ref h1, .int 0])), (h1, .inl (cc0, 4960, .inl f0))] U.heap ∧ va_K (dC, dI) vwCl [(cc0, .int)] U ∧ va_D (fun _ => True) [(h0, .inr (11, [.ref h1, .int 0])), (h1, .inl (cc0, 4960, .inl f0))] ∧ ns_F g (va_A [(h0, .inr (11, [.ref h1, .int 0])), (h1, .inl (cc0, 4960, .inl f0))] sz) U U.heap)) (va_Qv (fun _ : Unit => True) (fun _ t => va_P (dC, dI) vwCl [(h0, .inr (11, [.ref h1, .int 1])), (h1, .inl (cc0, 4960, .inl (upd (f0) 0 x0)))] t.heap ∧ va_K (dC, dI) vwCl [(cc0, .int)] t ∧ va_D (va_A [(h0, .inr (11, [.ref h1, .int 0])), (h1, .inl (cc0, 4960, .inl f0))] sz) [(h0, .inr (11, [.ref h1, .int 1])), (h1, .inl (cc0, 4960, .inl (upd (f0) 0 x0)))]) (va_A [(h0, .inr (11, [.ref h1, .int 0])), (h1, .inl (cc0, 4960, .inl f0))] sz)) 0 0 (va_A [(h0, .inr (11, [.ref h1, .int 0])), (h1, .inl (cc0, 4960, .inl f0))] sz) := by
  refine Met.ofW (cc := cX4_add) (maxL := 2) (ret := none) (by decide) rfl ?_
  intro p e s m args below meth c s₁ B hml hv
  obtain ⟨rfl, hsz, hP, hK, hD0, hF⟩ := hv
  have hx := B.exec
  have hb := B.bytes
  have hr := B.returns
  have hts := atoms_spec (ws := wsX4_add) B.pre
  have hown : s.vm.findClass RX4 = some m.cls := findClass_of_methodNamed B.named
  have hlocks := B.notSynchronized
  subst hsz
  have hD := hD0.self (sz := s.heap.size)
  generalize hAe : va_A [(h0, .inr (11, [.ref h1, .int 0])), (h1, .inl (cc0, 4960, .inl f0))] s.heap.size = A at hD hF ⊢
  have hA : ∀ q : Nat, s.heap.size ≤ q → A q := fun q h => by rw [← hAe]; exact Or.inr h
  have hS : va_S A s.heap s.heap [] := va_S.rf
  have hP : va_P (dC, dI) vwCl [(h0, .inr (11, [.ref h1, .int 0])), (h1, .inl (cc0, 4960, .inl f0))] s.heap := hP
  have hl := lv_entry ([.ref h0, .int x0]) (n := 2) (Nat.le_of_ble_eq_true rfl)
  rw [lg_entry_eq]
  generalize (lg_sl ([.ref h0, .int x0]) ++ List.replicate (2 - (lg_sl ([.ref h0, .int x0])).length) Slot.unset).toArray = ls at hl ⊢
  have hl : lv_has ls 2 [(0, .ref h0), (1, .int x0)] := hl
  refine lv_aload_n hx hb dX4_add_0 rfl (lv_at hl 0 rfl) ?_
  refine va_get (D := (dC, dI)) (ci := 11) (v := .int 0) (C := RX4) (T := TX4) (N := 2) hx hb hts (by decide +kernel) hown hK hP 0 rfl rfl 1 (by decide) (hts (.fieldLink RX4 7 "Nestprint$Row" "size" "I") (by decide +kernel)) (fun _ h9 => h9) rfl dX4_add_1 ?_
  refine lv_if_lt (tgt := 39) hx hb dX4_add_4 (by decide) (fun c1 => absurd c1 (by decide)) (fun c1 => ?_)
  refine lv_aload_n hx hb dX4_add_7 rfl (lv_at hl 0 rfl) ?_
  refine va_get (D := (dC, dI)) (ci := 11) (v := .int 0) (C := RX4) (T := TX4) (N := 2) hx hb hts (by decide +kernel) hown hK hP 0 rfl rfl 1 (by decide) (hts (.fieldLink RX4 7 "Nestprint$Row" "size" "I") (by decide +kernel)) (fun _ h9 => h9) rfl dX4_add_8 ?_
  refine lv_aload_n hx hb dX4_add_11 rfl (lv_at hl 0 rfl) ?_
  refine va_get (D := (dC, dI)) (ci := 11) (v := .ref h1) (C := RX4) (T := TX4) (N := 2) hx hb hts (by decide +kernel) hown hK hP 0 rfl rfl 0 (by decide) (hts (.fieldLink RX4 13 "Nestprint$Row" "cells" "[I") (by decide +kernel)) (fun _ h9 => h9) rfl dX4_add_12 ?_
  refine va_alen (v := 4960) hx hb hK hP 1 0 rfl rfl (by decide) dX4_add_15 ?_
  refine lv_icmp_ge (tgt := 39) hx hb dX4_add_16 (by decide) (fun c2 => absurd c2 (by decide)) (fun c2 => ?_)
  refine lv_aload_n hx hb dX4_add_19 rfl (lv_at hl 0 rfl) ?_
  refine va_get (D := (dC, dI)) (ci := 11) (v := .ref h1) (C := RX4) (T := TX4) (N := 2) hx hb hts (by decide +kernel) hown hK hP 0 rfl rfl 0 (by decide) (hts (.fieldLink RX4 13 "Nestprint$Row" "cells" "[I") (by decide +kernel)) (fun _ h9 => h9) rfl dX4_add_20 ?_
  refine lv_aload_n hx hb dX4_add_23 rfl (lv_at hl 0 rfl) ?_
  refine va_get (D := (dC, dI)) (ci := 11) (v := .int 0) (C := RX4) (T := TX4) (N := 2) hx hb hts (by decide +kernel) hown hK hP 0 rfl rfl 1 (by decide) (hts (.fieldLink RX4 7 "Nestprint$Row" "size" "I") (by decide +kernel)) (fun _ h9 => h9) rfl dX4_add_24 ?_
  refine lv_iload_n hx hb dX4_add_27 rfl (lv_at hl 1 rfl) ?_
  refine va_iast hx hb hK hP hD hS 1 0 rfl rfl (vp_in_nI (n := 0) (by decide) (by decide)) dX4_add_28 (fun H locs hP hD hS => ?_)
  have hP : va_P (dC, dI) vwCl [(h0, .inr (11, [.ref h1, .int 0])), (h1, .inl (cc0, 4960, .inl (upd (f0) 0 x0)))] H := hP
  have hD : va_D A [(h0, .inr (11, [.ref h1, .int 0])), (h1, .inl (cc0, 4960, .inl (upd (f0) 0 x0)))] := hD
  refine lv_aload_n hx hb dX4_add_29 rfl (lv_at hl 0 rfl) ?_
  refine lv_dup hx hb dX4_add_30 rfl ?_
  refine va_get (D := (dC, dI)) (ci := 11) (v := .int 0) (C := RX4) (T := TX4) (N := 2) hx hb hts (by decide +kernel) hown hK hP 0 rfl rfl 1 (by decide) (hts (.fieldLink RX4 7 "Nestprint$Row" "size" "I") (by decide +kernel)) (fun _ h9 => h9) rfl dX4_add_31 ?_
  refine lv_iconst (v := 1) hx hb dX4_add_34 (by decide) ?_
  refine lv_iadd hx hb dX4_add_35 ?_
  refine lv_topi (fun y3 ey3 => ?_)
  obtain rfl : y3 = 1 := ey3.trans (by decide)
  refine va_put (D := (dC, dI)) (ci := 11) (v := .int 1) (ty := .int) (C := RX4) (T := TX4) (N := 2) hx hb hts (by decide +kernel) tyX4 tyX4_ok nmX4 hown hK hP hD hS 0 rfl rfl 1 (by decide) (hts (.fieldLink RX4 7 "Nestprint$Row" "size" "I") (by decide +kernel)) (fun _ h9 => h9) rfl (by decide +kernel) rfl rfl (Nat.le_of_ble_eq_true rfl) dX4_add_36 (fun H locs hP hD hS => ?_)
  have hP : va_P (dC, dI) vwCl [(h0, .inr (11, [.ref h1, .int 1])), (h1, .inl (cc0, 4960, .inl (upd (f0) 0 x0)))] H := hP
  have hD : va_D A [(h0, .inr (11, [.ref h1, .int 1])), (h1, .inl (cc0, 4960, .inl (upd (f0) 0 x0)))] := hD
  have hP9 := hP.sub (ws' := [(h0, .inr (11, [.ref h1, .int 1])), (h1, .inl (cc0, 4960, .inl (upd (f0) 0 x0)))]) [0, 1] rfl
  have hD9 := hD.sub (ws' := [(h0, .inr (11, [.ref h1, .int 1])), (h1, .inl (cc0, 4960, .inl (upd (f0) 0 x0)))]) [0, 1] (by decide) rfl
  have hK9 := hK.sub (tys' := [(cc0, .int)]) [0] rfl
  refine W.widen (k := 0) (n := 0) (Nat.le_of_ble_eq_true rfl) (Nat.le_of_ble_eq_true rfl) ?_
  exact W.vret hx hb hr (fun t ht hW => ⟨⟨(), rfl, trivial, by rw [ht]; exact hP9, va_K.moved hW.alike hK9, hD9⟩, hS.F ht⟩) hS.2.2 dX4_add_39
set_option maxHeartbeats 4000000 in
set_option maxRecDepth 100000 in
theorem kX3_addPlace_2 (l : Launch) (dC : Nat → ClassId) (dI : Nat → Nat → Nat) (g : Nat → Nat) (sz : Nat) (h0 : Nat) (x0 : Int32) (h1 : Nat) (h2 : Nat) (h3 : Nat) (h4 : Nat) (h5 : Nat) (h6 : Nat) (h7 : Nat) (h8 : Nat) (h9 : Nat) (h10 : Nat) (h11 : Nat) (h12 : Nat) (v0 : Value) (v1 : Value) (v2 : Value) (cc0 : ClassId) (f0 : Nat → Int32) (cc1 : ClassId) (f1 : Nat → Int32) (cc2 : ClassId) (f2 : Nat → Int32) (cc3 : ClassId) (f3 : Nat → Int32) (cc4 : ClassId) (f4 : Nat → Int32) (cc5 : ClassId) (f5 : Nat → Int32) (ex0 : (1 : Int) ≤ x0.toInt ∧ x0.toInt ≤ (4 : Int)) : Met l yX3_addPlace wsX3_addPlace ({ frames := 1, cells := 0, slots := 0, locals := 21 }) (va_Pc [.ref h0, .int x0, .int 0, .int 0, .int 0, .int 1, .int 1] (fun U => U.heap.size = sz ∧ va_P (dC, dI) vwCl [(h0, .inr (10, [v0, .ref h1, .ref h3, .ref h5, .ref h7, .ref h9, .ref h11, v1, v2])), (h1, .inr (11, [.ref h2, .int 0])), (h2, .inl (cc0, 4960, .inl f0)), (h3, .inr (11, [.ref h4, .int 0])), (h4, .inl (cc1, 4960, .inl f1)), (h5, .inr (11, [.ref h6, .int 0])), (h6, .inl (cc2, 4960, .inl f2)), (h7, .inr (11, [.ref h8, .int 0])), (h8, .inl (cc3, 4960, .inl f3)), (h9, .inr (11, [.ref h10, .int 0])), (h10, .inl (cc4, 4960, .inl f4)), (h11, .inr (11, [.ref h12, .int 0])), (h12, .inl (cc5, 4960, .inl f5))] U.heap ∧ va_K (dC, dI) vwCl [(cc0, .int), (cc1, .int), (cc2, .int), (cc3, .int), (cc4, .int), (cc5, .int)] U ∧ va_D (fun _ => True) [(h0, .inr (10, [v0, .ref h1, .ref h3, .ref h5, .ref h7, .ref h9, .ref h11, v1, v2])), (h1, .inr (11, [.ref h2, .int 0])), (h2, .inl (cc0, 4960, .inl f0)), (h3, .inr (11, [.ref h4, .int 0])), (h4, .inl (cc1, 4960, .inl f1)), (h5, .inr (11, [.ref h6, .int 0])), (h6, .inl (cc2, 4960, .inl f2)), (h7, .inr (11, [.ref h8, .int 0])), (h8, .inl (cc3, 4960, .inl f3)), (h9, .inr (11, [.ref h10, .int 0])), (h10, .inl (cc4, 4960, .inl f4)), (h11, .inr (11, [.ref h12, .int 0])), (h12, .inl (cc5, 4960, .inl f5))] ∧ ns_F g (va_A [(h0, .inr (10, [v0, .ref h1, .ref h3, .ref h5, .ref h7, .ref h9, .ref h11, v1, v2])), (h1, .inr (11, [.ref h2, .int 0])), (h2, .inl (cc0, 4960, .inl f0)), (h3, .inr (11, [.ref h4, .int 0])), (h4, .inl (cc1, 4960, .inl f1)), (h5, .inr (11, [.ref h6, .int 0])), (h6, .inl (cc2, 4960, .inl f2)), (h7, .inr (11, [.ref h8, .int 0])), (h8, .inl (cc3, 4960, .inl f3)), (h9, .inr (11, [.ref h10, .int 0])), (h10, .inl (cc4, 4960, .inl f4)), (h11, .inr (11, [.ref h12, .int 0])), (h12, .inl (cc5, 4960, .inl f5))] sz) U U.heap)) (va_Qi (fun (r : Int32) (_ : Unit) => r = 0) (fun _ t => va_P (dC, dI) vwCl [(h0, .inr (10, [v0, .ref h1, .ref h3, .ref h5, .ref h7, .ref h9, .ref h11, v1, v2])), (h2, .inl (cc0, 4960, .inl (upd (f0) 0 x0))), (h3, .inr (11, [.ref h4, .int 1])), (h4, .inl (cc1, 4960, .inl (upd (f1) 0 0))), (h5, .inr (11, [.ref h6, .int 1])), (h6, .inl (cc2, 4960, .inl (upd (f2) 0 0))), (h7, .inr (11, [.ref h8, .int 1])), (h8, .inl (cc3, 4960, .inl (upd (f3) 0 0))), (h9, .inr (11, [.ref h10, .int 1])), (h10, .inl (cc4, 4960, .inl (upd (f4) 0 1))), (h11, .inr (11, [.ref h12, .int 1])), (h12, .inl (cc5, 4960, .inl (upd (f5) 0 1))), (h1, .inr (11, [.ref h2, .int 1]))] t.heap ∧ va_K (dC, dI) vwCl [(cc0, .int), (cc1, .int), (cc2, .int), (cc3, .int), (cc4, .int), (cc5, .int)] t ∧ va_D (va_A [(h0, .inr (10, [v0, .ref h1, .ref h3, .ref h5, .ref h7, .ref h9, .ref h11, v1, v2])), (h1, .inr (11, [.ref h2, .int 0])), (h2, .inl (cc0, 4960, .inl f0)), (h3, .inr (11, [.ref h4, .int 0])), (h4, .inl (cc1, 4960, .inl f1)), (h5, .inr (11, [.ref h6, .int 0])), (h6, .inl (cc2, 4960, .inl f2)), (h7, .inr (11, [.ref h8, .int 0])), (h8, .inl (cc3, 4960, .inl f3)), (h9, .inr (11, [.ref h10, .int 0])), (h10, .inl (cc4, 4960, .inl f4)), (h11, .inr (11, [.ref h12, .int 0])), (h12, .inl (cc5, 4960, .inl f5))] sz) [(h0, .inr (10, [v0, .ref h1, .ref h3, .ref h5, .ref h7, .ref h9, .ref h11, v1, v2])), (h2, .inl (cc0, 4960, .inl (upd (f0) 0 x0))), (h3, .inr (11, [.ref h4, .int 1])), (h4, .inl (cc1, 4960, .inl (upd (f1) 0 0))), (h5, .inr (11, [.ref h6, .int 1])), (h6, .inl (cc2, 4960, .inl (upd (f2) 0 0))), (h7, .inr (11, [.ref h8, .int 1])), (h8, .inl (cc3, 4960, .inl (upd (f3) 0 0))), (h9, .inr (11, [.ref h10, .int 1])), (h10, .inl (cc4, 4960, .inl (upd (f4) 0 1))), (h11, .inr (11, [.ref h12, .int 1])), (h12, .inl (cc5, 4960, .inl (upd (f5) 0 1))), (h1, .inr (11, [.ref h2, .int 1]))]) (va_A [(h0, .inr (10, [v0, .ref h1, .ref h3, .ref h5, .ref h7, .ref h9, .ref h11, v1, v2])), (h1, .inr (11, [.ref h2, .int 0])), (h2, .inl (cc0, 4960, .inl f0)), (h3, .inr (11, [.ref h4, .int 0])), (h4, .inl (cc1, 4960, .inl f1)), (h5, .inr (11, [.ref h6, .int 0])), (h6, .inl (cc2, 4960, .inl f2)), (h7, .inr (11, [.ref h8, .int 0])), (h8, .inl (cc3, 4960, .inl f3)), (h9, .inr (11, [.ref h10, .int 0])), (h10, .inl (cc4, 4960, .inl f4)), (h11, .inr (11, [.ref h12, .int 0])), (h12, .inl (cc5, 4960, .inl f5))] sz)) 0 0 (va_A [(h0, .inr (10, [v0, .ref h1, .ref h3, .ref h5, .ref h7, .ref h9, .ref h11, v1, v2])), (h1, .inr (11, [.ref h2, .int 0])), (h2, .inl (cc0, 4960, .inl f0)), (h3, .inr (11, [.ref h4, .int 0])), (h4, .inl (cc1, 4960, .inl f1)), (h5, .inr (11, [.ref h6, .int 0])), (h6, .inl (cc2, 4960, .inl f2)), (h7, .inr (11, [.ref h8, .int 0])), (h8, .inl (cc3, 4960, .inl f3)), (h9, .inr (11, [.ref h10, .int 0])), (h10, .inl (cc4, 4960, .inl f4)), (h11, .inr (11, [.ref h12, .int 0])), (h12, .inl (cc5, 4960, .inl f5))] sz) := by
  refine Met.ofW (cc := cX3_addPlace) (maxL := 7) (ret := (some .int)) (by decide) rfl ?_
  intro p e s m args below meth c s₁ B hml hv
  obtain ⟨rfl, hsz, hP, hK, hD0, hF⟩ := hv
  have hx := B.exec
  have hb := B.bytes
  have hr := B.returns
  have hts := atoms_spec (ws := wsX3_addPlace) B.pre
  have hown : s.vm.findClass RX3 = some m.cls := findClass_of_methodNamed B.named
  have hlocks := B.notSynchronized
  subst hsz
  have hD := hD0.self (sz := s.heap.size)
  generalize hAe : va_A [(h0, .inr (10, [v0, .ref h1, .ref h3, .ref h5, .ref h7, .ref h9, .ref h11, v1, v2])), (h1, .inr (11, [.ref h2, .int 0])), (h2, .inl (cc0, 4960, .inl f0)), (h3, .inr (11, [.ref h4, .int 0])), (h4, .inl (cc1, 4960, .inl f1)), (h5, .inr (11, [.ref h6, .int 0])), (h6, .inl (cc2, 4960, .inl f2)), (h7, .inr (11, [.ref h8, .int 0])), (h8, .inl (cc3, 4960, .inl f3)), (h9, .inr (11, [.ref h10, .int 0])), (h10, .inl (cc4, 4960, .inl f4)), (h11, .inr (11, [.ref h12, .int 0])), (h12, .inl (cc5, 4960, .inl f5))] s.heap.size = A at hD hF ⊢
  have hA : ∀ q : Nat, s.heap.size ≤ q → A q := fun q h => by rw [← hAe]; exact Or.inr h
  have hS : va_S A s.heap s.heap [] := va_S.rf
  have hP : va_P (dC, dI) vwCl [(h0, .inr (10, [v0, .ref h1, .ref h3, .ref h5, .ref h7, .ref h9, .ref h11, v1, v2])), (h1, .inr (11, [.ref h2, .int 0])), (h2, .inl (cc0, 4960, .inl f0)), (h3, .inr (11, [.ref h4, .int 0])), (h4, .inl (cc1, 4960, .inl f1)), (h5, .inr (11, [.ref h6, .int 0])), (h6, .inl (cc2, 4960, .inl f2)), (h7, .inr (11, [.ref h8, .int 0])), (h8, .inl (cc3, 4960, .inl f3)), (h9, .inr (11, [.ref h10, .int 0])), (h10, .inl (cc4, 4960, .inl f4)), (h11, .inr (11, [.ref h12, .int 0])), (h12, .inl (cc5, 4960, .inl f5))] s.heap := hP
  have hl := lv_entry ([.ref h0, .int x0, .int 0, .int 0, .int 0, .int 1, .int 1]) (n := 7) (Nat.le_of_ble_eq_true rfl)
  rw [lg_entry_eq]
  generalize (lg_sl ([.ref h0, .int x0, .int 0, .int 0, .int 0, .int 1, .int 1]) ++ List.replicate (7 - (lg_sl ([.ref h0, .int x0, .int 0, .int 0, .int 0, .int 1, .int 1])).length) Slot.unset).toArray = ls at hl ⊢
  have hl : lv_has ls 7 [(0, .ref h0), (1, .int x0), (2, .int 0), (3, .int 0), (4, .int 0), (5, .int 1), (6, .int 1)] := hl
  refine lv_aload_n hx hb dX3_addPlace_0 rfl (lv_at hl 0 rfl) ?_
  refine va_get (D := (dC, dI)) (ci := 10) (v := .ref h1) (C := RX3) (T := TX3) (N := 9) hx hb hts (by decide +kernel) hown hK hP 0 rfl rfl 1 (by decide) (hts (.fieldLink RX3 20 "Nestprint$Nodes" "kinds" "LNestprint$Row;") (by decide +kernel)) (fun _ h9 => h9) rfl dX3_addPlace_1 ?_
  refine lv_iload_n hx hb dX3_addPlace_4 rfl (lv_at hl 1 rfl) ?_
  have hPc := hP.sub (ws' := [(h1, .inr (11, [.ref h2, .int 0])), (h2, .inl (cc0, 4960, .inl f0))]) [1, 2] rfl
  have hDc := hD.sub (ws' := [(h1, .inr (11, [.ref h2, .int 0])), (h2, .inl (cc0, 4960, .inl f0))]) [1, 2] (by decide) rfl
  have hKc := hK.sub (tys' := [(cc0, .int)]) [0] rfl
  have hFc := va_free (wc := [(h1, .inr (11, [.ref h2, .int 0])), (h2, .inl (cc0, 4960, .inl f0))]) hD hS hA [1, 2] rfl
  refine va_callv (va_runV (As := [.int x0]) (rest := []) ⟨hx, hb, hml, hown, hts⟩ (kX4_add_5 l dC dI g s.heap.size h1 x0 h2 cc0 f0 ⟨by omega, by omega⟩) (cwV 1 hts gX3_addPlace_X4_add rfl rfl rfl (by decide +kernel) ⟨Nat.le_of_ble_eq_true rfl, Nat.le_of_ble_eq_true rfl⟩) ⟨fun a U gg mk q => by obtain ⟨q0, q1, qP, qK, qD, qF⟩ := q; exact ⟨q0, q1, qP, va_K.moved (u := U) (U := U.calling gg mk a) (Vm.Alike.refl U.vm) qK, qD, ns_same qF⟩, va_recv hK hP (ci := 11) (q0 := 1) rfl rfl, fun U hU hW => ⟨rfl, by rw [hU], by rw [hU]; exact hPc, va_K.moved hW.alike hKc, hDc.weaken (fun _ _ _ _ => trivial), ns_call hF hS hFc hU hW⟩⟩ rfl rfl hl.1 rfl (lv_room (Nat.le_of_ble_eq_true rfl)) dX3_addPlace_5 ⟨Nat.le_of_ble_eq_true rfl, Nat.le_of_ble_eq_true rfl⟩) hS (fun q _ h => hFc q h) hFc (fun u t H1 locs ht hvm hw hB hz1 hk1 hS => ?_)
  obtain ⟨hP1, hK1, hD1⟩ := hB
  rw [ht] at hP1
  have hK1 := va_K.moved hvm.symm hK1
  obtain ⟨hP, hD⟩ := va_join (wr := [(h0, .inr (10, [v0, .ref h1, .ref h3, .ref h5, .ref h7, .ref h9, .ref h11, v1, v2])), (h3, .inr (11, [.ref h4, .int 0])), (h4, .inl (cc1, 4960, .inl f1)), (h5, .inr (11, [.ref h6, .int 0])), (h6, .inl (cc2, 4960, .inl f2)), (h7, .inr (11, [.ref h8, .int 0])), (h8, .inl (cc3, 4960, .inl f3)), (h9, .inr (11, [.ref h10, .int 0])), (h10, .inl (cc4, 4960, .inl f4)), (h11, .inr (11, [.ref h12, .int 0])), (h12, .inl (cc5, 4960, .inl f5))]) (w1 := [(h1, .inr (11, [.ref h2, .int 1])), (h2, .inl (cc0, 4960, .inl (upd (f0) 0 x0)))]) hP hD [1, 2] [0, 3, 4, 5, 6, 7, 8, 9, 10, 11, 12] rfl rfl (by decide) (by decide) hk1 hFc hP1 hD1
  have hK := (hK.sub (tys' := [(cc1, .int), (cc2, .int), (cc3, .int), (cc4, .int), (cc5, .int)]) [1, 2, 3, 4, 5] rfl).app hK1
  generalize H1 = H at hP hS ⊢
  have hP : va_P (dC, dI) vwCl [(h0, .inr (10, [v0, .ref h1, .ref h3, .ref h5, .ref h7, .ref h9, .ref h11, v1, v2])), (h3, .inr (11, [.ref h4, .int 0])), (h4, .inl (cc1, 4960, .inl f1)), (h5, .inr (11, [.ref h6, .int 0])), (h6, .inl (cc2, 4960, .inl f2)), (h7, .inr (11, [.ref h8, .int 0])), (h8, .inl (cc3, 4960, .inl f3)), (h9, .inr (11, [.ref h10, .int 0])), (h10, .inl (cc4, 4960, .inl f4)), (h11, .inr (11, [.ref h12, .int 0])), (h12, .inl (cc5, 4960, .inl f5)), (h1, .inr (11, [.ref h2, .int 1])), (h2, .inl (cc0, 4960, .inl (upd (f0) 0 x0)))] H := hP
  have hD : va_D A [(h0, .inr (10, [v0, .ref h1, .ref h3, .ref h5, .ref h7, .ref h9, .ref h11, v1, v2])), (h3, .inr (11, [.ref h4, .int 0])), (h4, .inl (cc1, 4960, .inl f1)), (h5, .inr (11, [.ref h6, .int 0])), (h6, .inl (cc2, 4960, .inl f2)), (h7, .inr (11, [.ref h8, .int 0])), (h8, .inl (cc3, 4960, .inl f3)), (h9, .inr (11, [.ref h10, .int 0])), (h10, .inl (cc4, 4960, .inl f4)), (h11, .inr (11, [.ref h12, .int 0])), (h12, .inl (cc5, 4960, .inl f5)), (h1, .inr (11, [.ref h2, .int 1])), (h2, .inl (cc0, 4960, .inl (upd (f0) 0 x0)))] := hD
  have hK : va_K (dC, dI) vwCl [(cc1, .int), (cc2, .int), (cc3, .int), (cc4, .int), (cc5, .int), (cc0, .int)] s := hK
  refine W.widen (k := 0) (n := 0) (Nat.le_of_ble_eq_true rfl) (Nat.le_of_ble_eq_true rfl) ?_
  refine lv_aload_n hx hb dX3_addPlace_8 rfl (lv_at hl 0 rfl) ?_
  refine va_get (D := (dC, dI)) (ci := 10) (v := .ref h3) (C := RX3) (T := TX3) (N := 9) hx hb hts (by decide +kernel) hown hK hP 0 rfl rfl 2 (by decide) (hts (.fieldLink RX3 23 "Nestprint$Nodes" "starts" "LNestprint$Row;") (by decide +kernel)) (fun _ h9 => h9) rfl dX3_addPlace_9 ?_
  refine lv_iload_n hx hb dX3_addPlace_12 rfl (lv_at hl 2 rfl) ?_
  have hPc := hP.sub (ws' := [(h3, .inr (11, [.ref h4, .int 0])), (h4, .inl (cc1, 4960, .inl f1))]) [1, 2] rfl
  have hDc := hD.sub (ws' := [(h3, .inr (11, [.ref h4, .int 0])), (h4, .inl (cc1, 4960, .inl f1))]) [1, 2] (by decide) rfl
  have hKc := hK.sub (tys' := [(cc1, .int)]) [0] rfl
  have hFc := va_free (wc := [(h3, .inr (11, [.ref h4, .int 0])), (h4, .inl (cc1, 4960, .inl f1))]) hD hS hA [1, 2] rfl
  refine va_callv (va_runV (As := [.int 0]) (rest := []) ⟨hx, hb, hml, hown, hts⟩ (kX4_add_2 l dC dI g H.size h3 h4 cc1 f1 ) (cwV 1 hts gX3_addPlace_X4_add rfl rfl rfl (by decide +kernel) ⟨Nat.le_of_ble_eq_true rfl, Nat.le_of_ble_eq_true rfl⟩) ⟨fun a U gg mk q => by obtain ⟨q0, q1, qP, qK, qD, qF⟩ := q; exact ⟨q0, q1, qP, va_K.moved (u := U) (U := U.calling gg mk a) (Vm.Alike.refl U.vm) qK, qD, ns_same qF⟩, va_recv hK hP (ci := 11) (q0 := 1) rfl rfl, fun U hU hW => ⟨rfl, by rw [hU], by rw [hU]; exact hPc, va_K.moved hW.alike hKc, hDc.weaken (fun _ _ _ _ => trivial), ns_call hF hS hFc hU hW⟩⟩ rfl rfl hl.1 rfl (lv_room (Nat.le_of_ble_eq_true rfl)) dX3_addPlace_13 ⟨Nat.le_of_ble_eq_true rfl, Nat.le_of_ble_eq_true rfl⟩) hS (fun q _ h => hFc q h) hFc (fun u t H1 locs ht hvm hw hB hz1 hk1 hS => ?_)
  obtain ⟨hP1, hK1, hD1⟩ := hB
  rw [ht] at hP1
  have hK1 := va_K.moved hvm.symm hK1
  obtain ⟨hP, hD⟩ := va_join (wr := [(h0, .inr (10, [v0, .ref h1, .ref h3, .ref h5, .ref h7, .ref h9, .ref h11, v1, v2])), (h5, .inr (11, [.ref h6, .int 0])), (h6, .inl (cc2, 4960, .inl f2)), (h7, .inr (11, [.ref h8, .int 0])), (h8, .inl (cc3, 4960, .inl f3)), (h9, .inr (11, [.ref h10, .int 0])), (h10, .inl (cc4, 4960, .inl f4)), (h11, .inr (11, [.ref h12, .int 0])), (h12, .inl (cc5, 4960, .inl f5)), (h1, .inr (11, [.ref h2, .int 1])), (h2, .inl (cc0, 4960, .inl (upd (f0) 0 x0)))]) (w1 := [(h3, .inr (11, [.ref h4, .int 1])), (h4, .inl (cc1, 4960, .inl (upd (f1) 0 0)))]) hP hD [1, 2] [0, 3, 4, 5, 6, 7, 8, 9, 10, 11, 12] rfl rfl (by decide) (by decide) hk1 hFc hP1 hD1
  have hK := (hK.sub (tys' := [(cc2, .int), (cc3, .int), (cc4, .int), (cc5, .int), (cc0, .int)]) [1, 2, 3, 4, 5] rfl).app hK1
  generalize H1 = H at hP hS ⊢
  have hP : va_P (dC, dI) vwCl [(h0, .inr (10, [v0, .ref h1, .ref h3, .ref h5, .ref h7, .ref h9, .ref h11, v1, v2])), (h5, .inr (11, [.ref h6, .int 0])), (h6, .inl (cc2, 4960, .inl f2)), (h7, .inr (11, [.ref h8, .int 0])), (h8, .inl (cc3, 4960, .inl f3)), (h9, .inr (11, [.ref h10, .int 0])), (h10, .inl (cc4, 4960, .inl f4)), (h11, .inr (11, [.ref h12, .int 0])), (h12, .inl (cc5, 4960, .inl f5)), (h1, .inr (11, [.ref h2, .int 1])), (h2, .inl (cc0, 4960, .inl (upd (f0) 0 x0))), (h3, .inr (11, [.ref h4, .int 1])), (h4, .inl (cc1, 4960, .inl (upd (f1) 0 0)))] H := hP
  have hD : va_D A [(h0, .inr (10, [v0, .ref h1, .ref h3, .ref h5, .ref h7, .ref h9, .ref h11, v1, v2])), (h5, .inr (11, [.ref h6, .int 0])), (h6, .inl (cc2, 4960, .inl f2)), (h7, .inr (11, [.ref h8, .int 0])), (h8, .inl (cc3, 4960, .inl f3)), (h9, .inr (11, [.ref h10, .int 0])), (h10, .inl (cc4, 4960, .inl f4)), (h11, .inr (11, [.ref h12, .int 0])), (h12, .inl (cc5, 4960, .inl f5)), (h1, .inr (11, [.ref h2, .int 1])), (h2, .inl (cc0, 4960, .inl (upd (f0) 0 x0))), (h3, .inr (11, [.ref h4, .int 1])), (h4, .inl (cc1, 4960, .inl (upd (f1) 0 0)))] := hD
  have hK : va_K (dC, dI) vwCl [(cc2, .int), (cc3, .int), (cc4, .int), (cc5, .int), (cc0, .int), (cc1, .int)] s := hK
  refine W.widen (k := 0) (n := 0) (Nat.le_of_ble_eq_true rfl) (Nat.le_of_ble_eq_true rfl) ?_
  refine lv_aload_n hx hb dX3_addPlace_16 rfl (lv_at hl 0 rfl) ?_
  refine va_get (D := (dC, dI)) (ci := 10) (v := .ref h5) (C := RX3) (T := TX3) (N := 9) hx hb hts (by decide +kernel) hown hK hP 0 rfl rfl 3 (by decide) (hts (.fieldLink RX3 26 "Nestprint$Nodes" "counts" "LNestprint$Row;") (by decide +kernel)) (fun _ h9 => h9) rfl dX3_addPlace_17 ?_
  refine lv_iload_n hx hb dX3_addPlace_20 rfl (lv_at hl 3 rfl) ?_
  have hPc := hP.sub (ws' := [(h5, .inr (11, [.ref h6, .int 0])), (h6, .inl (cc2, 4960, .inl f2))]) [1, 2] rfl
  have hDc := hD.sub (ws' := [(h5, .inr (11, [.ref h6, .int 0])), (h6, .inl (cc2, 4960, .inl f2))]) [1, 2] (by decide) rfl
  have hKc := hK.sub (tys' := [(cc2, .int)]) [0] rfl
  have hFc := va_free (wc := [(h5, .inr (11, [.ref h6, .int 0])), (h6, .inl (cc2, 4960, .inl f2))]) hD hS hA [1, 2] rfl
  refine va_callv (va_runV (As := [.int 0]) (rest := []) ⟨hx, hb, hml, hown, hts⟩ (kX4_add_2 l dC dI g H.size h5 h6 cc2 f2 ) (cwV 1 hts gX3_addPlace_X4_add rfl rfl rfl (by decide +kernel) ⟨Nat.le_of_ble_eq_true rfl, Nat.le_of_ble_eq_true rfl⟩) ⟨fun a U gg mk q => by obtain ⟨q0, q1, qP, qK, qD, qF⟩ := q; exact ⟨q0, q1, qP, va_K.moved (u := U) (U := U.calling gg mk a) (Vm.Alike.refl U.vm) qK, qD, ns_same qF⟩, va_recv hK hP (ci := 11) (q0 := 1) rfl rfl, fun U hU hW => ⟨rfl, by rw [hU], by rw [hU]; exact hPc, va_K.moved hW.alike hKc, hDc.weaken (fun _ _ _ _ => trivial), ns_call hF hS hFc hU hW⟩⟩ rfl rfl hl.1 rfl (lv_room (Nat.le_of_ble_eq_true rfl)) dX3_addPlace_21 ⟨Nat.le_of_ble_eq_true rfl, Nat.le_of_ble_eq_true rfl⟩) hS (fun q _ h => hFc q h) hFc (fun u t H1 locs ht hvm hw hB hz1 hk1 hS => ?_)
  obtain ⟨hP1, hK1, hD1⟩ := hB
  rw [ht] at hP1
  have hK1 := va_K.moved hvm.symm hK1
  obtain ⟨hP, hD⟩ := va_join (wr := [(h0, .inr (10, [v0, .ref h1, .ref h3, .ref h5, .ref h7, .ref h9, .ref h11, v1, v2])), (h7, .inr (11, [.ref h8, .int 0])), (h8, .inl (cc3, 4960, .inl f3)), (h9, .inr (11, [.ref h10, .int 0])), (h10, .inl (cc4, 4960, .inl f4)), (h11, .inr (11, [.ref h12, .int 0])), (h12, .inl (cc5, 4960, .inl f5)), (h1, .inr (11, [.ref h2, .int 1])), (h2, .inl (cc0, 4960, .inl (upd (f0) 0 x0))), (h3, .inr (11, [.ref h4, .int 1])), (h4, .inl (cc1, 4960, .inl (upd (f1) 0 0)))]) (w1 := [(h5, .inr (11, [.ref h6, .int 1])), (h6, .inl (cc2, 4960, .inl (upd (f2) 0 0)))]) hP hD [1, 2] [0, 3, 4, 5, 6, 7, 8, 9, 10, 11, 12] rfl rfl (by decide) (by decide) hk1 hFc hP1 hD1
  have hK := (hK.sub (tys' := [(cc3, .int), (cc4, .int), (cc5, .int), (cc0, .int), (cc1, .int)]) [1, 2, 3, 4, 5] rfl).app hK1
  generalize H1 = H at hP hS ⊢
  have hP : va_P (dC, dI) vwCl [(h0, .inr (10, [v0, .ref h1, .ref h3, .ref h5, .ref h7, .ref h9, .ref h11, v1, v2])), (h7, .inr (11, [.ref h8, .int 0])), (h8, .inl (cc3, 4960, .inl f3)), (h9, .inr (11, [.ref h10, .int 0])), (h10, .inl (cc4, 4960, .inl f4)), (h11, .inr (11, [.ref h12, .int 0])), (h12, .inl (cc5, 4960, .inl f5)), (h1, .inr (11, [.ref h2, .int 1])), (h2, .inl (cc0, 4960, .inl (upd (f0) 0 x0))), (h3, .inr (11, [.ref h4, .int 1])), (h4, .inl (cc1, 4960, .inl (upd (f1) 0 0))), (h5, .inr (11, [.ref h6, .int 1])), (h6, .inl (cc2, 4960, .inl (upd (f2) 0 0)))] H := hP
  have hD : va_D A [(h0, .inr (10, [v0, .ref h1, .ref h3, .ref h5, .ref h7, .ref h9, .ref h11, v1, v2])), (h7, .inr (11, [.ref h8, .int 0])), (h8, .inl (cc3, 4960, .inl f3)), (h9, .inr (11, [.ref h10, .int 0])), (h10, .inl (cc4, 4960, .inl f4)), (h11, .inr (11, [.ref h12, .int 0])), (h12, .inl (cc5, 4960, .inl f5)), (h1, .inr (11, [.ref h2, .int 1])), (h2, .inl (cc0, 4960, .inl (upd (f0) 0 x0))), (h3, .inr (11, [.ref h4, .int 1])), (h4, .inl (cc1, 4960, .inl (upd (f1) 0 0))), (h5, .inr (11, [.ref h6, .int 1])), (h6, .inl (cc2, 4960, .inl (upd (f2) 0 0)))] := hD
  have hK : va_K (dC, dI) vwCl [(cc3, .int), (cc4, .int), (cc5, .int), (cc0, .int), (cc1, .int), (cc2, .int)] s := hK
  refine W.widen (k := 0) (n := 0) (Nat.le_of_ble_eq_true rfl) (Nat.le_of_ble_eq_true rfl) ?_
  refine lv_aload_n hx hb dX3_addPlace_24 rfl (lv_at hl 0 rfl) ?_
  refine va_get (D := (dC, dI)) (ci := 10) (v := .ref h7) (C := RX3) (T := TX3) (N := 9) hx hb hts (by decide +kernel) hown hK hP 0 rfl rfl 4 (by decide) (hts (.fieldLink RX3 29 "Nestprint$Nodes" "bys" "LNestprint$Row;") (by decide +kernel)) (fun _ h9 => h9) rfl dX3_addPlace_25 ?_
  refine lv_iload hx hb dX3_addPlace_28 (lv_at hl 4 rfl) ?_
  have hPc := hP.sub (ws' := [(h7, .inr (11, [.ref h8, .int 0])), (h8, .inl (cc3, 4960, .inl f3))]) [1, 2] rfl
  have hDc := hD.sub (ws' := [(h7, .inr (11, [.ref h8, .int 0])), (h8, .inl (cc3, 4960, .inl f3))]) [1, 2] (by decide) rfl
  have hKc := hK.sub (tys' := [(cc3, .int)]) [0] rfl
  have hFc := va_free (wc := [(h7, .inr (11, [.ref h8, .int 0])), (h8, .inl (cc3, 4960, .inl f3))]) hD hS hA [1, 2] rfl
  refine va_callv (va_runV (As := [.int 0]) (rest := []) ⟨hx, hb, hml, hown, hts⟩ (kX4_add_2 l dC dI g H.size h7 h8 cc3 f3 ) (cwV 1 hts gX3_addPlace_X4_add rfl rfl rfl (by decide +kernel) ⟨Nat.le_of_ble_eq_true rfl, Nat.le_of_ble_eq_true rfl⟩) ⟨fun a U gg mk q => by obtain ⟨q0, q1, qP, qK, qD, qF⟩ := q; exact ⟨q0, q1, qP, va_K.moved (u := U) (U := U.calling gg mk a) (Vm.Alike.refl U.vm) qK, qD, ns_same qF⟩, va_recv hK hP (ci := 11) (q0 := 1) rfl rfl, fun U hU hW => ⟨rfl, by rw [hU], by rw [hU]; exact hPc, va_K.moved hW.alike hKc, hDc.weaken (fun _ _ _ _ => trivial), ns_call hF hS hFc hU hW⟩⟩ rfl rfl hl.1 rfl (lv_room (Nat.le_of_ble_eq_true rfl)) dX3_addPlace_30 ⟨Nat.le_of_ble_eq_true rfl, Nat.le_of_ble_eq_true rfl⟩) hS (fun q _ h => hFc q h) hFc (fun u t H1 locs ht hvm hw hB hz1 hk1 hS => ?_)
  obtain ⟨hP1, hK1, hD1⟩ := hB
  rw [ht] at hP1
  have hK1 := va_K.moved hvm.symm hK1
  obtain ⟨hP, hD⟩ := va_join (wr := [(h0, .inr (10, [v0, .ref h1, .ref h3, .ref h5, .ref h7, .ref h9, .ref h11, v1, v2])), (h9, .inr (11, [.ref h10, .int 0])), (h10, .inl (cc4, 4960, .inl f4)), (h11, .inr (11, [.ref h12, .int 0])), (h12, .inl (cc5, 4960, .inl f5)), (h1, .inr (11, [.ref h2, .int 1])), (h2, .inl (cc0, 4960, .inl (upd (f0) 0 x0))), (h3, .inr (11, [.ref h4, .int 1])), (h4, .inl (cc1, 4960, .inl (upd (f1) 0 0))), (h5, .inr (11, [.ref h6, .int 1])), (h6, .inl (cc2, 4960, .inl (upd (f2) 0 0)))]) (w1 := [(h7, .inr (11, [.ref h8, .int 1])), (h8, .inl (cc3, 4960, .inl (upd (f3) 0 0)))]) hP hD [1, 2] [0, 3, 4, 5, 6, 7, 8, 9, 10, 11, 12] rfl rfl (by decide) (by decide) hk1 hFc hP1 hD1
  have hK := (hK.sub (tys' := [(cc4, .int), (cc5, .int), (cc0, .int), (cc1, .int), (cc2, .int)]) [1, 2, 3, 4, 5] rfl).app hK1
  generalize H1 = H at hP hS ⊢
  have hP : va_P (dC, dI) vwCl [(h0, .inr (10, [v0, .ref h1, .ref h3, .ref h5, .ref h7, .ref h9, .ref h11, v1, v2])), (h9, .inr (11, [.ref h10, .int 0])), (h10, .inl (cc4, 4960, .inl f4)), (h11, .inr (11, [.ref h12, .int 0])), (h12, .inl (cc5, 4960, .inl f5)), (h1, .inr (11, [.ref h2, .int 1])), (h2, .inl (cc0, 4960, .inl (upd (f0) 0 x0))), (h3, .inr (11, [.ref h4, .int 1])), (h4, .inl (cc1, 4960, .inl (upd (f1) 0 0))), (h5, .inr (11, [.ref h6, .int 1])), (h6, .inl (cc2, 4960, .inl (upd (f2) 0 0))), (h7, .inr (11, [.ref h8, .int 1])), (h8, .inl (cc3, 4960, .inl (upd (f3) 0 0)))] H := hP
  have hD : va_D A [(h0, .inr (10, [v0, .ref h1, .ref h3, .ref h5, .ref h7, .ref h9, .ref h11, v1, v2])), (h9, .inr (11, [.ref h10, .int 0])), (h10, .inl (cc4, 4960, .inl f4)), (h11, .inr (11, [.ref h12, .int 0])), (h12, .inl (cc5, 4960, .inl f5)), (h1, .inr (11, [.ref h2, .int 1])), (h2, .inl (cc0, 4960, .inl (upd (f0) 0 x0))), (h3, .inr (11, [.ref h4, .int 1])), (h4, .inl (cc1, 4960, .inl (upd (f1) 0 0))), (h5, .inr (11, [.ref h6, .int 1])), (h6, .inl (cc2, 4960, .inl (upd (f2) 0 0))), (h7, .inr (11, [.ref h8, .int 1])), (h8, .inl (cc3, 4960, .inl (upd (f3) 0 0)))] := hD
  have hK : va_K (dC, dI) vwCl [(cc4, .int), (cc5, .int), (cc0, .int), (cc1, .int), (cc2, .int), (cc3, .int)] s := hK
  refine W.widen (k := 0) (n := 0) (Nat.le_of_ble_eq_true rfl) (Nat.le_of_ble_eq_true rfl) ?_
  refine lv_aload_n hx hb dX3_addPlace_33 rfl (lv_at hl 0 rfl) ?_
  refine va_get (D := (dC, dI)) (ci := 10) (v := .ref h9) (C := RX3) (T := TX3) (N := 9) hx hb hts (by decide +kernel) hown hK hP 0 rfl rfl 5 (by decide) (hts (.fieldLink RX3 32 "Nestprint$Nodes" "weights" "LNestprint$Row;") (by decide +kernel)) (fun _ h9 => h9) rfl dX3_addPlace_34 ?_
  refine lv_iload hx hb dX3_addPlace_37 (lv_at hl 5 rfl) ?_
  have hPc := hP.sub (ws' := [(h9, .inr (11, [.ref h10, .int 0])), (h10, .inl (cc4, 4960, .inl f4))]) [1, 2] rfl
  have hDc := hD.sub (ws' := [(h9, .inr (11, [.ref h10, .int 0])), (h10, .inl (cc4, 4960, .inl f4))]) [1, 2] (by decide) rfl
  have hKc := hK.sub (tys' := [(cc4, .int)]) [0] rfl
  have hFc := va_free (wc := [(h9, .inr (11, [.ref h10, .int 0])), (h10, .inl (cc4, 4960, .inl f4))]) hD hS hA [1, 2] rfl
  refine va_callv (va_runV (As := [.int 1]) (rest := []) ⟨hx, hb, hml, hown, hts⟩ (kX4_add_3 l dC dI g H.size h9 h10 cc4 f4 ) (cwV 1 hts gX3_addPlace_X4_add rfl rfl rfl (by decide +kernel) ⟨Nat.le_of_ble_eq_true rfl, Nat.le_of_ble_eq_true rfl⟩) ⟨fun a U gg mk q => by obtain ⟨q0, q1, qP, qK, qD, qF⟩ := q; exact ⟨q0, q1, qP, va_K.moved (u := U) (U := U.calling gg mk a) (Vm.Alike.refl U.vm) qK, qD, ns_same qF⟩, va_recv hK hP (ci := 11) (q0 := 1) rfl rfl, fun U hU hW => ⟨rfl, by rw [hU], by rw [hU]; exact hPc, va_K.moved hW.alike hKc, hDc.weaken (fun _ _ _ _ => trivial), ns_call hF hS hFc hU hW⟩⟩ rfl rfl hl.1 rfl (lv_room (Nat.le_of_ble_eq_true rfl)) dX3_addPlace_39 ⟨Nat.le_of_ble_eq_true rfl, Nat.le_of_ble_eq_true rfl⟩) hS (fun q _ h => hFc q h) hFc (fun u t H1 locs ht hvm hw hB hz1 hk1 hS => ?_)
  obtain ⟨hP1, hK1, hD1⟩ := hB
  rw [ht] at hP1
  have hK1 := va_K.moved hvm.symm hK1
  obtain ⟨hP, hD⟩ := va_join (wr := [(h0, .inr (10, [v0, .ref h1, .ref h3, .ref h5, .ref h7, .ref h9, .ref h11, v1, v2])), (h11, .inr (11, [.ref h12, .int 0])), (h12, .inl (cc5, 4960, .inl f5)), (h1, .inr (11, [.ref h2, .int 1])), (h2, .inl (cc0, 4960, .inl (upd (f0) 0 x0))), (h3, .inr (11, [.ref h4, .int 1])), (h4, .inl (cc1, 4960, .inl (upd (f1) 0 0))), (h5, .inr (11, [.ref h6, .int 1])), (h6, .inl (cc2, 4960, .inl (upd (f2) 0 0))), (h7, .inr (11, [.ref h8, .int 1])), (h8, .inl (cc3, 4960, .inl (upd (f3) 0 0)))]) (w1 := [(h9, .inr (11, [.ref h10, .int 1])), (h10, .inl (cc4, 4960, .inl (upd (f4) 0 1)))]) hP hD [1, 2] [0, 3, 4, 5, 6, 7, 8, 9, 10, 11, 12] rfl rfl (by decide) (by decide) hk1 hFc hP1 hD1
  have hK := (hK.sub (tys' := [(cc5, .int), (cc0, .int), (cc1, .int), (cc2, .int), (cc3, .int)]) [1, 2, 3, 4, 5] rfl).app hK1
  generalize H1 = H at hP hS ⊢
  have hP : va_P (dC, dI) vwCl [(h0, .inr (10, [v0, .ref h1, .ref h3, .ref h5, .ref h7, .ref h9, .ref h11, v1, v2])), (h11, .inr (11, [.ref h12, .int 0])), (h12, .inl (cc5, 4960, .inl f5)), (h1, .inr (11, [.ref h2, .int 1])), (h2, .inl (cc0, 4960, .inl (upd (f0) 0 x0))), (h3, .inr (11, [.ref h4, .int 1])), (h4, .inl (cc1, 4960, .inl (upd (f1) 0 0))), (h5, .inr (11, [.ref h6, .int 1])), (h6, .inl (cc2, 4960, .inl (upd (f2) 0 0))), (h7, .inr (11, [.ref h8, .int 1])), (h8, .inl (cc3, 4960, .inl (upd (f3) 0 0))), (h9, .inr (11, [.ref h10, .int 1])), (h10, .inl (cc4, 4960, .inl (upd (f4) 0 1)))] H := hP
  have hD : va_D A [(h0, .inr (10, [v0, .ref h1, .ref h3, .ref h5, .ref h7, .ref h9, .ref h11, v1, v2])), (h11, .inr (11, [.ref h12, .int 0])), (h12, .inl (cc5, 4960, .inl f5)), (h1, .inr (11, [.ref h2, .int 1])), (h2, .inl (cc0, 4960, .inl (upd (f0) 0 x0))), (h3, .inr (11, [.ref h4, .int 1])), (h4, .inl (cc1, 4960, .inl (upd (f1) 0 0))), (h5, .inr (11, [.ref h6, .int 1])), (h6, .inl (cc2, 4960, .inl (upd (f2) 0 0))), (h7, .inr (11, [.ref h8, .int 1])), (h8, .inl (cc3, 4960, .inl (upd (f3) 0 0))), (h9, .inr (11, [.ref h10, .int 1])), (h10, .inl (cc4, 4960, .inl (upd (f4) 0 1)))] := hD
  have hK : va_K (dC, dI) vwCl [(cc5, .int), (cc0, .int), (cc1, .int), (cc2, .int), (cc3, .int), (cc4, .int)] s := hK
  refine W.widen (k := 0) (n := 0) (Nat.le_of_ble_eq_true rfl) (Nat.le_of_ble_eq_true rfl) ?_
  refine lv_aload_n hx hb dX3_addPlace_42 rfl (lv_at hl 0 rfl) ?_
  refine va_get (D := (dC, dI)) (ci := 10) (v := .ref h11) (C := RX3) (T := TX3) (N := 9) hx hb hts (by decide +kernel) hown hK hP 0 rfl rfl 6 (by decide) (hts (.fieldLink RX3 35 "Nestprint$Nodes" "depths" "LNestprint$Row;") (by decide +kernel)) (fun _ h9 => h9) rfl dX3_addPlace_43 ?_
  refine lv_iload hx hb dX3_addPlace_46 (lv_at hl 6 rfl) ?_
  have hPc := hP.sub (ws' := [(h11, .inr (11, [.ref h12, .int 0])), (h12, .inl (cc5, 4960, .inl f5))]) [1, 2] rfl
  have hDc := hD.sub (ws' := [(h11, .inr (11, [.ref h12, .int 0])), (h12, .inl (cc5, 4960, .inl f5))]) [1, 2] (by decide) rfl
  have hKc := hK.sub (tys' := [(cc5, .int)]) [0] rfl
  have hFc := va_free (wc := [(h11, .inr (11, [.ref h12, .int 0])), (h12, .inl (cc5, 4960, .inl f5))]) hD hS hA [1, 2] rfl
  refine va_callv (va_runV (As := [.int 1]) (rest := []) ⟨hx, hb, hml, hown, hts⟩ (kX4_add_3 l dC dI g H.size h11 h12 cc5 f5 ) (cwV 1 hts gX3_addPlace_X4_add rfl rfl rfl (by decide +kernel) ⟨Nat.le_of_ble_eq_true rfl, Nat.le_of_ble_eq_true rfl⟩) ⟨fun a U gg mk q => by obtain ⟨q0, q1, qP, qK, qD, qF⟩ := q; exact ⟨q0, q1, qP, va_K.moved (u := U) (U := U.calling gg mk a) (Vm.Alike.refl U.vm) qK, qD, ns_same qF⟩, va_recv hK hP (ci := 11) (q0 := 1) rfl rfl, fun U hU hW => ⟨rfl, by rw [hU], by rw [hU]; exact hPc, va_K.moved hW.alike hKc, hDc.weaken (fun _ _ _ _ => trivial), ns_call hF hS hFc hU hW⟩⟩ rfl rfl hl.1 rfl (lv_room (Nat.le_of_ble_eq_true rfl)) dX3_addPlace_48 ⟨Nat.le_of_ble_eq_true rfl, Nat.le_of_ble_eq_true rfl⟩) hS (fun q _ h => hFc q h) hFc (fun u t H1 locs ht hvm hw hB hz1 hk1 hS => ?_)
  obtain ⟨hP1, hK1, hD1⟩ := hB
  rw [ht] at hP1
  have hK1 := va_K.moved hvm.symm hK1
  obtain ⟨hP, hD⟩ := va_join (wr := [(h0, .inr (10, [v0, .ref h1, .ref h3, .ref h5, .ref h7, .ref h9, .ref h11, v1, v2])), (h1, .inr (11, [.ref h2, .int 1])), (h2, .inl (cc0, 4960, .inl (upd (f0) 0 x0))), (h3, .inr (11, [.ref h4, .int 1])), (h4, .inl (cc1, 4960, .inl (upd (f1) 0 0))), (h5, .inr (11, [.ref h6, .int 1])), (h6, .inl (cc2, 4960, .inl (upd (f2) 0 0))), (h7, .inr (11, [.ref h8, .int 1])), (h8, .inl (cc3, 4960, .inl (upd (f3) 0 0))), (h9, .inr (11, [.ref h10, .int 1])), (h10, .inl (cc4, 4960, .inl (upd (f4) 0 1)))]) (w1 := [(h11, .inr (11, [.ref h12, .int 1])), (h12, .inl (cc5, 4960, .inl (upd (f5) 0 1)))]) hP hD [1, 2] [0, 3, 4, 5, 6, 7, 8, 9, 10, 11, 12] rfl rfl (by decide) (by decide) hk1 hFc hP1 hD1
  have hK := (hK.sub (tys' := [(cc0, .int), (cc1, .int), (cc2, .int), (cc3, .int), (cc4, .int)]) [1, 2, 3, 4, 5] rfl).app hK1
  generalize H1 = H at hP hS ⊢
  have hP : va_P (dC, dI) vwCl [(h0, .inr (10, [v0, .ref h1, .ref h3, .ref h5, .ref h7, .ref h9, .ref h11, v1, v2])), (h1, .inr (11, [.ref h2, .int 1])), (h2, .inl (cc0, 4960, .inl (upd (f0) 0 x0))), (h3, .inr (11, [.ref h4, .int 1])), (h4, .inl (cc1, 4960, .inl (upd (f1) 0 0))), (h5, .inr (11, [.ref h6, .int 1])), (h6, .inl (cc2, 4960, .inl (upd (f2) 0 0))), (h7, .inr (11, [.ref h8, .int 1])), (h8, .inl (cc3, 4960, .inl (upd (f3) 0 0))), (h9, .inr (11, [.ref h10, .int 1])), (h10, .inl (cc4, 4960, .inl (upd (f4) 0 1))), (h11, .inr (11, [.ref h12, .int 1])), (h12, .inl (cc5, 4960, .inl (upd (f5) 0 1)))] H := hP
  have hD : va_D A [(h0, .inr (10, [v0, .ref h1, .ref h3, .ref h5, .ref h7, .ref h9, .ref h11, v1, v2])), (h1, .inr (11, [.ref h2, .int 1])), (h2, .inl (cc0, 4960, .inl (upd (f0) 0 x0))), (h3, .inr (11, [.ref h4, .int 1])), (h4, .inl (cc1, 4960, .inl (upd (f1) 0 0))), (h5, .inr (11, [.ref h6, .int 1])), (h6, .inl (cc2, 4960, .inl (upd (f2) 0 0))), (h7, .inr (11, [.ref h8, .int 1])), (h8, .inl (cc3, 4960, .inl (upd (f3) 0 0))), (h9, .inr (11, [.ref h10, .int 1])), (h10, .inl (cc4, 4960, .inl (upd (f4) 0 1))), (h11, .inr (11, [.ref h12, .int 1])), (h12, .inl (cc5, 4960, .inl (upd (f5) 0 1)))] := hD
  have hK : va_K (dC, dI) vwCl [(cc0, .int), (cc1, .int), (cc2, .int), (cc3, .int), (cc4, .int), (cc5, .int)] s := hK
  refine W.widen (k := 0) (n := 0) (Nat.le_of_ble_eq_true rfl) (Nat.le_of_ble_eq_true rfl) ?_
  refine lv_aload_n hx hb dX3_addPlace_51 rfl (lv_at hl 0 rfl) ?_
  refine va_get (D := (dC, dI)) (ci := 10) (v := .ref h1) (C := RX3) (T := TX3) (N := 9) hx hb hts (by decide +kernel) hown hK hP 0 rfl rfl 1 (by decide) (hts (.fieldLink RX3 20 "Nestprint$Nodes" "kinds" "LNestprint$Row;") (by decide +kernel)) (fun _ h9 => h9) rfl dX3_addPlace_52 ?_
  have hPc := hP.sub (ws' := [(h1, .inr (11, [.ref h2, .int 1]))]) [1] rfl
  have hDc := hD.sub (ws' := [(h1, .inr (11, [.ref h2, .int 1]))]) [1] (by decide) rfl
  have hKc := hK.sub (tys' := []) [] rfl
  have hFc := va_free (wc := [(h1, .inr (11, [.ref h2, .int 1]))]) hD hS hA [1] rfl
  refine va_calli (va_runV (As := []) (rest := []) ⟨hx, hb, hml, hown, hts⟩ (kX4_size_2 l dC dI g H.size h1 (.ref h2) ) (cwV 0 hts gX3_addPlace_X4_size rfl rfl rfl (by decide +kernel) ⟨Nat.le_of_ble_eq_true rfl, Nat.le_of_ble_eq_true rfl⟩) ⟨fun a U gg mk q => by obtain ⟨q0, q1, qP, qK, qD, qF⟩ := q; exact ⟨q0, q1, qP, va_K.moved (u := U) (U := U.calling gg mk a) (Vm.Alike.refl U.vm) qK, qD, ns_same qF⟩, va_recv hK hP (ci := 11) (q0 := 1) rfl rfl, fun U hU hW => ⟨rfl, by rw [hU], by rw [hU]; exact hPc, va_K.moved hW.alike hKc, hDc.weaken (fun _ _ _ _ => trivial), ns_call hF hS hFc hU hW⟩⟩ rfl rfl hl.1 rfl (lv_room (Nat.le_of_ble_eq_true rfl)) dX3_addPlace_55 ⟨Nat.le_of_ble_eq_true rfl, Nat.le_of_ble_eq_true rfl⟩) hS (fun q _ h => hFc q h) hFc (fun r9 u t H1 locs ht hvm hw hB hz1 hk1 hS => ?_)
  obtain rfl := hw
  obtain ⟨hP1, hK1, hD1⟩ := hB
  rw [ht] at hP1
  have hK1 := va_K.moved hvm.symm hK1
  obtain ⟨hP, hD⟩ := va_join (wr := [(h0, .inr (10, [v0, .ref h1, .ref h3, .ref h5, .ref h7, .ref h9, .ref h11, v1, v2])), (h2, .inl (cc0, 4960, .inl (upd (f0) 0 x0))), (h3, .inr (11, [.ref h4, .int 1])), (h4, .inl (cc1, 4960, .inl (upd (f1) 0 0))), (h5, .inr (11, [.ref h6, .int 1])), (h6, .inl (cc2, 4960, .inl (upd (f2) 0 0))), (h7, .inr (11, [.ref h8, .int 1])), (h8, .inl (cc3, 4960, .inl (upd (f3) 0 0))), (h9, .inr (11, [.ref h10, .int 1])), (h10, .inl (cc4, 4960, .inl (upd (f4) 0 1))), (h11, .inr (11, [.ref h12, .int 1])), (h12, .inl (cc5, 4960, .inl (upd (f5) 0 1)))]) (w1 := [(h1, .inr (11, [.ref h2, .int 1]))]) hP hD [1] [0, 2, 3, 4, 5, 6, 7, 8, 9, 10, 11, 12] rfl rfl (by decide) (by decide) hk1 hFc hP1 hD1
  have hK := (hK.sub (tys' := [(cc0, .int), (cc1, .int), (cc2, .int), (cc3, .int), (cc4, .int), (cc5, .int)]) [0, 1, 2, 3, 4, 5] rfl).app hK1
  generalize H1 = H at hP hS ⊢
  have hP : va_P (dC, dI) vwCl [(h0, .inr (10, [v0, .ref h1, .ref h3, .ref h5, .ref h7, .ref h9, .ref h11, v1, v2])), (h2, .inl (cc0, 4960, .inl (upd (f0) 0 x0))), (h3, .inr (11, [.ref h4, .int 1])), (h4, .inl (cc1, 4960, .inl (upd (f1) 0 0))), (h5, .inr (11, [.ref h6, .int 1])), (h6, .inl (cc2, 4960, .inl (upd (f2) 0 0))), (h7, .inr (11, [.ref h8, .int 1])), (h8, .inl (cc3, 4960, .inl (upd (f3) 0 0))), (h9, .inr (11, [.ref h10, .int 1])), (h10, .inl (cc4, 4960, .inl (upd (f4) 0 1))), (h11, .inr (11, [.ref h12, .int 1])), (h12, .inl (cc5, 4960, .inl (upd (f5) 0 1))), (h1, .inr (11, [.ref h2, .int 1]))] H := hP
  have hD : va_D A [(h0, .inr (10, [v0, .ref h1, .ref h3, .ref h5, .ref h7, .ref h9, .ref h11, v1, v2])), (h2, .inl (cc0, 4960, .inl (upd (f0) 0 x0))), (h3, .inr (11, [.ref h4, .int 1])), (h4, .inl (cc1, 4960, .inl (upd (f1) 0 0))), (h5, .inr (11, [.ref h6, .int 1])), (h6, .inl (cc2, 4960, .inl (upd (f2) 0 0))), (h7, .inr (11, [.ref h8, .int 1])), (h8, .inl (cc3, 4960, .inl (upd (f3) 0 0))), (h9, .inr (11, [.ref h10, .int 1])), (h10, .inl (cc4, 4960, .inl (upd (f4) 0 1))), (h11, .inr (11, [.ref h12, .int 1])), (h12, .inl (cc5, 4960, .inl (upd (f5) 0 1))), (h1, .inr (11, [.ref h2, .int 1]))] := hD
  have hK : va_K (dC, dI) vwCl [(cc0, .int), (cc1, .int), (cc2, .int), (cc3, .int), (cc4, .int), (cc5, .int)] s := hK
  refine W.widen (k := 0) (n := 0) (Nat.le_of_ble_eq_true rfl) (Nat.le_of_ble_eq_true rfl) ?_
  refine lv_iconst (v := 1) hx hb dX3_addPlace_58 (by decide) ?_
  refine lv_isub hx hb dX3_addPlace_59 ?_
  refine lv_topi (fun y1 ey1 => ?_)
  obtain rfl : y1 = 0 := ey1.trans (by decide)
  have hP9 := hP.sub (ws' := [(h0, .inr (10, [v0, .ref h1, .ref h3, .ref h5, .ref h7, .ref h9, .ref h11, v1, v2])), (h2, .inl (cc0, 4960, .inl (upd (f0) 0 x0))), (h3, .inr (11, [.ref h4, .int 1])), (h4, .inl (cc1, 4960, .inl (upd (f1) 0 0))), (h5, .inr (11, [.ref h6, .int 1])), (h6, .inl (cc2, 4960, .inl (upd (f2) 0 0))), (h7, .inr (11, [.ref h8, .int 1])), (h8, .inl (cc3, 4960, .inl (upd (f3) 0 0))), (h9, .inr (11, [.ref h10, .int 1])), (h10, .inl (cc4, 4960, .inl (upd (f4) 0 1))), (h11, .inr (11, [.ref h12, .int 1])), (h12, .inl (cc5, 4960, .inl (upd (f5) 0 1))), (h1, .inr (11, [.ref h2, .int 1]))]) [0, 1, 2, 3, 4, 5, 6, 7, 8, 9, 10, 11, 12] rfl
  have hD9 := hD.sub (ws' := [(h0, .inr (10, [v0, .ref h1, .ref h3, .ref h5, .ref h7, .ref h9, .ref h11, v1, v2])), (h2, .inl (cc0, 4960, .inl (upd (f0) 0 x0))), (h3, .inr (11, [.ref h4, .int 1])), (h4, .inl (cc1, 4960, .inl (upd (f1) 0 0))), (h5, .inr (11, [.ref h6, .int 1])), (h6, .inl (cc2, 4960, .inl (upd (f2) 0 0))), (h7, .inr (11, [.ref h8, .int 1])), (h8, .inl (cc3, 4960, .inl (upd (f3) 0 0))), (h9, .inr (11, [.ref h10, .int 1])), (h10, .inl (cc4, 4960, .inl (upd (f4) 0 1))), (h11, .inr (11, [.ref h12, .int 1])), (h12, .inl (cc5, 4960, .inl (upd (f5) 0 1))), (h1, .inr (11, [.ref h2, .int 1]))]) [0, 1, 2, 3, 4, 5, 6, 7, 8, 9, 10, 11, 12] (by decide) rfl
  have hK9 := hK.sub (tys' := [(cc0, .int), (cc1, .int), (cc2, .int), (cc3, .int), (cc4, .int), (cc5, .int)]) [0, 1, 2, 3, 4, 5] rfl
  refine W.widen (k := 0) (n := 0) (Nat.le_of_ble_eq_true rfl) (Nat.le_of_ble_eq_true rfl) ?_
  exact W.iret (v := 0) hx hb hr (fun t ht hW => ⟨⟨_, (), rfl, rfl, by rw [ht]; exact hP9, va_K.moved hW.alike hK9, hD9⟩, hS.F ht⟩) hS.2.2 dX3_addPlace_60
set_option maxHeartbeats 4000000 in
set_option maxRecDepth 100000 in
theorem kX3_addMark (l : Launch) (dC : Nat → ClassId) (dI : Nat → Nat → Nat) (g : Nat → Nat) (sz : Nat) (h0 : Nat) (x0 : Int32) (h1 : Nat) (h2 : Nat) (h3 : Nat) (h4 : Nat) (h5 : Nat) (h6 : Nat) (h7 : Nat) (h8 : Nat) (h9 : Nat) (h10 : Nat) (h11 : Nat) (h12 : Nat) (v0 : Value) (v1 : Value) (v2 : Value) (cc0 : ClassId) (f0 : Nat → Int32) (cc1 : ClassId) (f1 : Nat → Int32) (cc2 : ClassId) (f2 : Nat → Int32) (cc3 : ClassId) (f3 : Nat → Int32) (cc4 : ClassId) (f4 : Nat → Int32) (cc5 : ClassId) (f5 : Nat → Int32) (ex0 : (1 : Int) ≤ x0.toInt ∧ x0.toInt ≤ (4 : Int)) : Met l yX3_addMark wsX3_addMark ({ frames := 2, cells := 0, slots := 0, locals := 47 }) (va_Pc [.ref h0, .int x0] (fun U => U.heap.size = sz ∧ va_P (dC, dI) vwCl [(h0, .inr (10, [v0, .ref h1, .ref h3, .ref h5, .ref h7, .ref h9, .ref h11, v1, v2])), (h1, .inr (11, [.ref h2, .int 0])), (h2, .inl (cc0, 4960, .inl f0)), (h3, .inr (11, [.ref h4, .int 0])), (h4, .inl (cc1, 4960, .inl f1)), (h5, .inr (11, [.ref h6, .int 0])), (h6, .inl (cc2, 4960, .inl f2)), (h7, .inr (11, [.ref h8, .int 0])), (h8, .inl (cc3, 4960, .inl f3)), (h9, .inr (11, [.ref h10, .int 0])), (h10, .inl (cc4, 4960, .inl f4)), (h11, .inr (11, [.ref h12, .int 0])), (h12, .inl (cc5, 4960, .inl f5))] U.heap ∧ va_K (dC, dI) vwCl [(cc0, .int), (cc1, .int), (cc2, .int), (cc3, .int), (cc4, .int), (cc5, .int)] U ∧ va_D (fun _ => True) [(h0, .inr (10, [v0, .ref h1, .ref h3, .ref h5, .ref h7, .ref h9, .ref h11, v1, v2])), (h1, .inr (11, [.ref h2, .int 0])), (h2, .inl (cc0, 4960, .inl f0)), (h3, .inr (11, [.ref h4, .int 0])), (h4, .inl (cc1, 4960, .inl f1)), (h5, .inr (11, [.ref h6, .int 0])), (h6, .inl (cc2, 4960, .inl f2)), (h7, .inr (11, [.ref h8, .int 0])), (h8, .inl (cc3, 4960, .inl f3)), (h9, .inr (11, [.ref h10, .int 0])), (h10, .inl (cc4, 4960, .inl f4)), (h11, .inr (11, [.ref h12, .int 0])), (h12, .inl (cc5, 4960, .inl f5))] ∧ ns_F g (va_A [(h0, .inr (10, [v0, .ref h1, .ref h3, .ref h5, .ref h7, .ref h9, .ref h11, v1, v2])), (h1, .inr (11, [.ref h2, .int 0])), (h2, .inl (cc0, 4960, .inl f0)), (h3, .inr (11, [.ref h4, .int 0])), (h4, .inl (cc1, 4960, .inl f1)), (h5, .inr (11, [.ref h6, .int 0])), (h6, .inl (cc2, 4960, .inl f2)), (h7, .inr (11, [.ref h8, .int 0])), (h8, .inl (cc3, 4960, .inl f3)), (h9, .inr (11, [.ref h10, .int 0])), (h10, .inl (cc4, 4960, .inl f4)), (h11, .inr (11, [.ref h12, .int 0])), (h12, .inl (cc5, 4960, .inl f5))] sz) U U.heap)) (va_Qi (fun (r : Int32) (_ : Unit) => r = 0) (fun _ t => va_P (dC, dI) vwCl [(h0, .inr (10, [v0, .ref h1, .ref h3, .ref h5, .ref h7, .ref h9, .ref h11, v1, v2])), (h2, .inl (cc0, 4960, .inl (upd (f0) 0 x0))), (h3, .inr (11, [.ref h4, .int 1])), (h4, .inl (cc1, 4960, .inl (upd (f1) 0 0))), (h5, .inr (11, [.ref h6, .int 1])), (h6, .inl (cc2, 4960, .inl (upd (f2) 0 0))), (h7, .inr (11, [.ref h8, .int 1])), (h8, .inl (cc3, 4960, .inl (upd (f3) 0 0))), (h9, .inr (11, [.ref h10, .int 1])), (h10, .inl (cc4, 4960, .inl (upd (f4) 0 1))), (h11, .inr (11, [.ref h12, .int 1])), (h12, .inl (cc5, 4960, .inl (upd (f5) 0 1))), (h1, .inr (11, [.ref h2, .int 1]))] t.heap ∧ va_K (dC, dI) vwCl [(cc0, .int), (cc1, .int), (cc2, .int), (cc3, .int), (cc4, .int), (cc5, .int)] t ∧ va_D (va_A [(h0, .inr (10, [v0, .ref h1, .ref h3, .ref h5, .ref h7, .ref h9, .ref h11, v1, v2])), (h1, .inr (11, [.ref h2, .int 0])), (h2, .inl (cc0, 4960, .inl f0)), (h3, .inr (11, [.ref h4, .int 0])), (h4, .inl (cc1, 4960, .inl f1)), (h5, .inr (11, [.ref h6, .int 0])), (h6, .inl (cc2, 4960, .inl f2)), (h7, .inr (11, [.ref h8, .int 0])), (h8, .inl (cc3, 4960, .inl f3)), (h9, .inr (11, [.ref h10, .int 0])), (h10, .inl (cc4, 4960, .inl f4)), (h11, .inr (11, [.ref h12, .int 0])), (h12, .inl (cc5, 4960, .inl f5))] sz) [(h0, .inr (10, [v0, .ref h1, .ref h3, .ref h5, .ref h7, .ref h9, .ref h11, v1, v2])), (h2, .inl (cc0, 4960, .inl (upd (f0) 0 x0))), (h3, .inr (11, [.ref h4, .int 1])), (h4, .inl (cc1, 4960, .inl (upd (f1) 0 0))), (h5, .inr (11, [.ref h6, .int 1])), (h6, .inl (cc2, 4960, .inl (upd (f2) 0 0))), (h7, .inr (11, [.ref h8, .int 1])), (h8, .inl (cc3, 4960, .inl (upd (f3) 0 0))), (h9, .inr (11, [.ref h10, .int 1])), (h10, .inl (cc4, 4960, .inl (upd (f4) 0 1))), (h11, .inr (11, [.ref h12, .int 1])), (h12, .inl (cc5, 4960, .inl (upd (f5) 0 1))), (h1, .inr (11, [.ref h2, .int 1]))]) (va_A [(h0, .inr (10, [v0, .ref h1, .ref h3, .ref h5, .ref h7, .ref h9, .ref h11, v1, v2])), (h1, .inr (11, [.ref h2, .int 0])), (h2, .inl (cc0, 4960, .inl f0)), (h3, .inr (11, [.ref h4, .int 0])), (h4, .inl (cc1, 4960, .inl f1)), (h5, .inr (11, [.ref h6, .int 0])), (h6, .inl (cc2, 4960, .inl f2)), (h7, .inr (11, [.ref h8, .int 0])), (h8, .inl (cc3, 4960, .inl f3)), (h9, .inr (11, [.ref h10, .int 0])), (h10, .inl (cc4, 4960, .inl f4)), (h11, .inr (11, [.ref h12, .int 0])), (h12, .inl (cc5, 4960, .inl f5))] sz)) 0 0 (va_A [(h0, .inr (10, [v0, .ref h1, .ref h3, .ref h5, .ref h7, .ref h9, .ref h11, v1, v2])), (h1, .inr (11, [.ref h2, .int 0])), (h2, .inl (cc0, 4960, .inl f0)), (h3, .inr (11, [.ref h4, .int 0])), (h4, .inl (cc1, 4960, .inl f1)), (h5, .inr (11, [.ref h6, .int 0])), (h6, .inl (cc2, 4960, .inl f2)), (h7, .inr (11, [.ref h8, .int 0])), (h8, .inl (cc3, 4960, .inl f3)), (h9, .inr (11, [.ref h10, .int 0])), (h10, .inl (cc4, 4960, .inl f4)), (h11, .inr (11, [.ref h12, .int 0])), (h12, .inl (cc5, 4960, .inl f5))] sz) := by
  refine Met.ofW (cc := cX3_addMark) (maxL := 2) (ret := (some .int)) (by decide) rfl ?_
  intro p e s m args below meth c s₁ B hml hv
  obtain ⟨rfl, hsz, hP, hK, hD0, hF⟩ := hv
  have hx := B.exec
  have hb := B.bytes
  have hr := B.returns
  have hts := atoms_spec (ws := wsX3_addMark) B.pre
  have hown : s.vm.findClass RX3 = some m.cls := findClass_of_methodNamed B.named
  have hlocks := B.notSynchronized
  subst hsz
  have hD := hD0.self (sz := s.heap.size)
  generalize hAe : va_A [(h0, .inr (10, [v0, .ref h1, .ref h3, .ref h5, .ref h7, .ref h9, .ref h11, v1, v2])), (h1, .inr (11, [.ref h2, .int 0])), (h2, .inl (cc0, 4960, .inl f0)), (h3, .inr (11, [.ref h4, .int 0])), (h4, .inl (cc1, 4960, .inl f1)), (h5, .inr (11, [.ref h6, .int 0])), (h6, .inl (cc2, 4960, .inl f2)), (h7, .inr (11, [.ref h8, .int 0])), (h8, .inl (cc3, 4960, .inl f3)), (h9, .inr (11, [.ref h10, .int 0])), (h10, .inl (cc4, 4960, .inl f4)), (h11, .inr (11, [.ref h12, .int 0])), (h12, .inl (cc5, 4960, .inl f5))] s.heap.size = A at hD hF ⊢
  have hA : ∀ q : Nat, s.heap.size ≤ q → A q := fun q h => by rw [← hAe]; exact Or.inr h
  have hS : va_S A s.heap s.heap [] := va_S.rf
  have hP : va_P (dC, dI) vwCl [(h0, .inr (10, [v0, .ref h1, .ref h3, .ref h5, .ref h7, .ref h9, .ref h11, v1, v2])), (h1, .inr (11, [.ref h2, .int 0])), (h2, .inl (cc0, 4960, .inl f0)), (h3, .inr (11, [.ref h4, .int 0])), (h4, .inl (cc1, 4960, .inl f1)), (h5, .inr (11, [.ref h6, .int 0])), (h6, .inl (cc2, 4960, .inl f2)), (h7, .inr (11, [.ref h8, .int 0])), (h8, .inl (cc3, 4960, .inl f3)), (h9, .inr (11, [.ref h10, .int 0])), (h10, .inl (cc4, 4960, .inl f4)), (h11, .inr (11, [.ref h12, .int 0])), (h12, .inl (cc5, 4960, .inl f5))] s.heap := hP
  have hl := lv_entry ([.ref h0, .int x0]) (n := 2) (Nat.le_of_ble_eq_true rfl)
  rw [lg_entry_eq]
  generalize (lg_sl ([.ref h0, .int x0]) ++ List.replicate (2 - (lg_sl ([.ref h0, .int x0])).length) Slot.unset).toArray = ls at hl ⊢
  have hl : lv_has ls 2 [(0, .ref h0), (1, .int x0)] := hl
  refine lv_aload_n hx hb dX3_addMark_0 rfl (lv_at hl 0 rfl) ?_
  refine lv_iload_n hx hb dX3_addMark_1 rfl (lv_at hl 1 rfl) ?_
  refine lv_iconst (v := 0) hx hb dX3_addMark_2 (by decide) ?_
  refine lv_iconst (v := 0) hx hb dX3_addMark_3 (by decide) ?_
  refine lv_iconst (v := 0) hx hb dX3_addMark_4 (by decide) ?_
  refine lv_iconst (v := 1) hx hb dX3_addMark_5 (by decide) ?_
  refine lv_iconst (v := 1) hx hb dX3_addMark_6 (by decide) ?_
  have hPc := hP.sub (ws' := [(h0, .inr (10, [v0, .ref h1, .ref h3, .ref h5, .ref h7, .ref h9, .ref h11, v1, v2])), (h1, .inr (11, [.ref h2, .int 0])), (h2, .inl (cc0, 4960, .inl f0)), (h3, .inr (11, [.ref h4, .int 0])), (h4, .inl (cc1, 4960, .inl f1)), (h5, .inr (11, [.ref h6, .int 0])), (h6, .inl (cc2, 4960, .inl f2)), (h7, .inr (11, [.ref h8, .int 0])), (h8, .inl (cc3, 4960, .inl f3)), (h9, .inr (11, [.ref h10, .int 0])), (h10, .inl (cc4, 4960, .inl f4)), (h11, .inr (11, [.ref h12, .int 0])), (h12, .inl (cc5, 4960, .inl f5))]) [0, 1, 2, 3, 4, 5, 6, 7, 8, 9, 10, 11, 12] rfl
  have hDc := hD.sub (ws' := [(h0, .inr (10, [v0, .ref h1, .ref h3, .ref h5, .ref h7, .ref h9, .ref h11, v1, v2])), (h1, .inr (11, [.ref h2, .int 0])), (h2, .inl (cc0, 4960, .inl f0)), (h3, .inr (11, [.ref h4, .int 0])), (h4, .inl (cc1, 4960, .inl f1)), (h5, .inr (11, [.ref h6, .int 0])), (h6, .inl (cc2, 4960, .inl f2)), (h7, .inr (11, [.ref h8, .int 0])), (h8, .inl (cc3, 4960, .inl f3)), (h9, .inr (11, [.ref h10, .int 0])), (h10, .inl (cc4, 4960, .inl f4)), (h11, .inr (11, [.ref h12, .int 0])), (h12, .inl (cc5, 4960, .inl f5))]) [0, 1, 2, 3, 4, 5, 6, 7, 8, 9, 10, 11, 12] (by decide) rfl
  have hKc := hK.sub (tys' := [(cc0, .int), (cc1, .int), (cc2, .int), (cc3, .int), (cc4, .int), (cc5, .int)]) [0, 1, 2, 3, 4, 5] rfl
  have hFc := va_free (wc := [(h0, .inr (10, [v0, .ref h1, .ref h3, .ref h5, .ref h7, .ref h9, .ref h11, v1, v2])), (h1, .inr (11, [.ref h2, .int 0])), (h2, .inl (cc0, 4960, .inl f0)), (h3, .inr (11, [.ref h4, .int 0])), (h4, .inl (cc1, 4960, .inl f1)), (h5, .inr (11, [.ref h6, .int 0])), (h6, .inl (cc2, 4960, .inl f2)), (h7, .inr (11, [.ref h8, .int 0])), (h8, .inl (cc3, 4960, .inl f3)), (h9, .inr (11, [.ref h10, .int 0])), (h10, .inl (cc4, 4960, .inl f4)), (h11, .inr (11, [.ref h12, .int 0])), (h12, .inl (cc5, 4960, .inl f5))]) hD hS hA [0, 1, 2, 3, 4, 5, 6, 7, 8, 9, 10, 11, 12] rfl
  refine va_calli (va_runV (As := [.int x0, .int 0, .int 0, .int 0, .int 1, .int 1]) (rest := []) ⟨hx, hb, hml, hown, hts⟩ (kX3_addPlace_2 l dC dI g s.heap.size h0 x0 h1 h2 h3 h4 h5 h6 h7 h8 h9 h10 h11 h12 v0 v1 v2 cc0 f0 cc1 f1 cc2 f2 cc3 f3 cc4 f4 cc5 f5 ⟨by omega, by omega⟩) (cwV 6 hts gX3_addMark_X3_addPlace rfl rfl rfl (by decide +kernel) ⟨Nat.le_of_ble_eq_true rfl, Nat.le_of_ble_eq_true rfl⟩) ⟨fun a U gg mk q => by obtain ⟨q0, q1, qP, qK, qD, qF⟩ := q; exact ⟨q0, q1, qP, va_K.moved (u := U) (U := U.calling gg mk a) (Vm.Alike.refl U.vm) qK, qD, ns_same qF⟩, va_recv hK hP (ci := 10) (q0 := 0) rfl rfl, fun U hU hW => ⟨rfl, by rw [hU], by rw [hU]; exact hPc, va_K.moved hW.alike hKc, hDc.weaken (fun _ _ _ _ => trivial), ns_call hF hS hFc hU hW⟩⟩ rfl rfl hl.1 rfl (lv_room (Nat.le_of_ble_eq_true rfl)) dX3_addMark_7 ⟨Nat.le_of_ble_eq_true rfl, Nat.le_of_ble_eq_true rfl⟩) hS (fun q _ h => hFc q h) hFc (fun r9 u t H1 locs ht hvm hw hB hz1 hk1 hS => ?_)
  obtain rfl := hw
  obtain ⟨hP1, hK1, hD1⟩ := hB
  rw [ht] at hP1
  have hK1 := va_K.moved hvm.symm hK1
  obtain ⟨hP, hD⟩ := va_join (wr := []) (w1 := [(h0, .inr (10, [v0, .ref h1, .ref h3, .ref h5, .ref h7, .ref h9, .ref h11, v1, v2])), (h2, .inl (cc0, 4960, .inl (upd (f0) 0 x0))), (h3, .inr (11, [.ref h4, .int 1])), (h4, .inl (cc1, 4960, .inl (upd (f1) 0 0))), (h5, .inr (11, [.ref h6, .int 1])), (h6, .inl (cc2, 4960, .inl (upd (f2) 0 0))), (h7, .inr (11, [.ref h8, .int 1])), (h8, .inl (cc3, 4960, .inl (upd (f3) 0 0))), (h9, .inr (11, [.ref h10, .int 1])), (h10, .inl (cc4, 4960, .inl (upd (f4) 0 1))), (h11, .inr (11, [.ref h12, .int 1])), (h12, .inl (cc5, 4960, .inl (upd (f5) 0 1))), (h1, .inr (11, [.ref h2, .int 1]))]) hP hD [0, 1, 2, 3, 4, 5, 6, 7, 8, 9, 10, 11, 12] [] rfl rfl (by decide) (by decide) hk1 hFc hP1 hD1
  have hK := (hK.sub (tys' := []) [] rfl).app hK1
  generalize H1 = H at hP hS ⊢
  have hP : va_P (dC, dI) vwCl [(h0, .inr (10, [v0, .ref h1, .ref h3, .ref h5, .ref h7, .ref h9, .ref h11, v1, v2])), (h2, .inl (cc0, 4960, .inl (upd (f0) 0 x0))), (h3, .inr (11, [.ref h4, .int 1])), (h4, .inl (cc1, 4960, .inl (upd (f1) 0 0))), (h5, .inr (11, [.ref h6, .int 1])), (h6, .inl (cc2, 4960, .inl (upd (f2) 0 0))), (h7, .inr (11, [.ref h8, .int 1])), (h8, .inl (cc3, 4960, .inl (upd (f3) 0 0))), (h9, .inr (11, [.ref h10, .int 1])), (h10, .inl (cc4, 4960, .inl (upd (f4) 0 1))), (h11, .inr (11, [.ref h12, .int 1])), (h12, .inl (cc5, 4960, .inl (upd (f5) 0 1))), (h1, .inr (11, [.ref h2, .int 1]))] H := hP
  have hD : va_D A [(h0, .inr (10, [v0, .ref h1, .ref h3, .ref h5, .ref h7, .ref h9, .ref h11, v1, v2])), (h2, .inl (cc0, 4960, .inl (upd (f0) 0 x0))), (h3, .inr (11, [.ref h4, .int 1])), (h4, .inl (cc1, 4960, .inl (upd (f1) 0 0))), (h5, .inr (11, [.ref h6, .int 1])), (h6, .inl (cc2, 4960, .inl (upd (f2) 0 0))), (h7, .inr (11, [.ref h8, .int 1])), (h8, .inl (cc3, 4960, .inl (upd (f3) 0 0))), (h9, .inr (11, [.ref h10, .int 1])), (h10, .inl (cc4, 4960, .inl (upd (f4) 0 1))), (h11, .inr (11, [.ref h12, .int 1])), (h12, .inl (cc5, 4960, .inl (upd (f5) 0 1))), (h1, .inr (11, [.ref h2, .int 1]))] := hD
  have hK : va_K (dC, dI) vwCl [(cc0, .int), (cc1, .int), (cc2, .int), (cc3, .int), (cc4, .int), (cc5, .int)] s := hK
  refine W.widen (k := 0) (n := 0) (Nat.le_of_ble_eq_true rfl) (Nat.le_of_ble_eq_true rfl) ?_
  have hP9 := hP.sub (ws' := [(h0, .inr (10, [v0, .ref h1, .ref h3, .ref h5, .ref h7, .ref h9, .ref h11, v1, v2])), (h2, .inl (cc0, 4960, .inl (upd (f0) 0 x0))), (h3, .inr (11, [.ref h4, .int 1])), (h4, .inl (cc1, 4960, .inl (upd (f1) 0 0))), (h5, .inr (11, [.ref h6, .int 1])), (h6, .inl (cc2, 4960, .inl (upd (f2) 0 0))), (h7, .inr (11, [.ref h8, .int 1])), (h8, .inl (cc3, 4960, .inl (upd (f3) 0 0))), (h9, .inr (11, [.ref h10, .int 1])), (h10, .inl (cc4, 4960, .inl (upd (f4) 0 1))), (h11, .inr (11, [.ref h12, .int 1])), (h12, .inl (cc5, 4960, .inl (upd (f5) 0 1))), (h1, .inr (11, [.ref h2, .int 1]))]) [0, 1, 2, 3, 4, 5, 6, 7, 8, 9, 10, 11, 12] rfl
  have hD9 := hD.sub (ws' := [(h0, .inr (10, [v0, .ref h1, .ref h3, .ref h5, .ref h7, .ref h9, .ref h11, v1, v2])), (h2, .inl (cc0, 4960, .inl (upd (f0) 0 x0))), (h3, .inr (11, [.ref h4, .int 1])), (h4, .inl (cc1, 4960, .inl (upd (f1) 0 0))), (h5, .inr (11, [.ref h6, .int 1])), (h6, .inl (cc2, 4960, .inl (upd (f2) 0 0))), (h7, .inr (11, [.ref h8, .int 1])), (h8, .inl (cc3, 4960, .inl (upd (f3) 0 0))), (h9, .inr (11, [.ref h10, .int 1])), (h10, .inl (cc4, 4960, .inl (upd (f4) 0 1))), (h11, .inr (11, [.ref h12, .int 1])), (h12, .inl (cc5, 4960, .inl (upd (f5) 0 1))), (h1, .inr (11, [.ref h2, .int 1]))]) [0, 1, 2, 3, 4, 5, 6, 7, 8, 9, 10, 11, 12] (by decide) rfl
  have hK9 := hK.sub (tys' := [(cc0, .int), (cc1, .int), (cc2, .int), (cc3, .int), (cc4, .int), (cc5, .int)]) [0, 1, 2, 3, 4, 5] rfl
  refine W.widen (k := 0) (n := 0) (Nat.le_of_ble_eq_true rfl) (Nat.le_of_ble_eq_true rfl) ?_
  exact W.iret (v := 0) hx hb hr (fun t ht hW => ⟨⟨_, (), rfl, rfl, by rw [ht]; exact hP9, va_K.moved hW.alike hK9, hD9⟩, hS.F ht⟩) hS.2.2 dX3_addMark_10
set_option maxHeartbeats 4000000 in
set_option maxRecDepth 100000 in
theorem kX9_mark_2 (l : Launch) (dC : Nat → ClassId) (dI : Nat → Nat → Nat) (g : Nat → Nat) (sz : Nat) (h0 : Nat) (x0 : Int32) (h1 : Nat) (h2 : Nat) (h3 : Nat) (h4 : Nat) (h5 : Nat) (h6 : Nat) (h7 : Nat) (h8 : Nat) (h9 : Nat) (h10 : Nat) (h11 : Nat) (h12 : Nat) (h13 : Nat) (h14 : Nat) (h15 : Nat) (v0 : Value) (v1 : Value) (v2 : Value) (v3 : Value) (v4 : Value) (v5 : Value) (v6 : Value) (v7 : Value) (v8 : Value) (v9 : Value) (v10 : Value) (v11 : Value) (v12 : Value) (v13 : Value) (v14 : Value) (v15 : Value) (cc0 : ClassId) (f0 : Nat → Int32) (cc1 : ClassId) (f1 : Nat → Int32) (cc2 : ClassId) (f2 : Nat → Int32) (cc3 : ClassId) (f3 : Nat → Int32) (cc4 : ClassId) (f4 : Nat → Int32) (cc5 : ClassId) (f5 : Nat → Int32) (cc6 : ClassId) (f6 : Nat → Int32) (ex0 : (1 : Int) ≤ x0.toInt ∧ x0.toInt ≤ (4 : Int)) : Met l yX9_mark wsX9_mark ({ frames := 3, cells := 0, slots := 0, locals := 68 }) (va_Pc [.ref h0, .int x0] (fun U => U.heap.size = sz ∧ va_P (dC, dI) vwCl [(h0, .inr (16, [.ref h1, v0, v1, v2, v3, v4, v5, v6, v7, v8, v9, v10, v11, v12, v13, .int 0])), (h1, .inr (10, [.ref h2, .ref h3, .ref h5, .ref h7, .ref h9, .ref h11, .ref h13, v14, v15])), (h2, .inr (11, [.ref h15, .int 0])), (h3, .inr (11, [.ref h4, .int 0])), (h4, .inl (cc0, 4960, .inl f0)), (h5, .inr (11, [.ref h6, .int 0])), (h6, .inl (cc1, 4960, .inl f1)), (h7, .inr (11, [.ref h8, .int 0])), (h8, .inl (cc2, 4960, .inl f2)), (h9, .inr (11, [.ref h10, .int 0])), (h10, .inl (cc3, 4960, .inl f3)), (h11, .inr (11, [.ref h12, .int 0])), (h12, .inl (cc4, 4960, .inl f4)), (h13, .inr (11, [.ref h14, .int 0])), (h14, .inl (cc5, 4960, .inl f5)), (h15, .inl (cc6, 80, .inl f6))] U.heap ∧ va_K (dC, dI) vwCl [(cc0, .int), (cc1, .int), (cc2, .int), (cc3, .int), (cc4, .int), (cc5, .int), (cc6, .int)] U ∧ va_D (fun _ => True) [(h0, .inr (16, [.ref h1, v0, v1, v2, v3, v4, v5, v6, v7, v8, v9, v10, v11, v12, v13, .int 0])), (h1, .inr (10, [.ref h2, .ref h3, .ref h5, .ref h7, .ref h9, .ref h11, .ref h13, v14, v15])), (h2, .inr (11, [.ref h15, .int 0])), (h3, .inr (11, [.ref h4, .int 0])), (h4, .inl (cc0, 4960, .inl f0)), (h5, .inr (11, [.ref h6, .int 0])), (h6, .inl (cc1, 4960, .inl f1)), (h7, .inr (11, [.ref h8, .int 0])), (h8, .inl (cc2, 4960, .inl f2)), (h9, .inr (11, [.ref h10, .int 0])), (h10, .inl (cc3, 4960, .inl f3)), (h11, .inr (11, [.ref h12, .int 0])), (h12, .inl (cc4, 4960, .inl f4)), (h13, .inr (11, [.ref h14, .int 0])), (h14, .inl (cc5, 4960, .inl f5)), (h15, .inl (cc6, 80, .inl f6))] ∧ ns_F g (va_A [(h0, .inr (16, [.ref h1, v0, v1, v2, v3, v4, v5, v6, v7, v8, v9, v10, v11, v12, v13, .int 0])), (h1, .inr (10, [.ref h2, .ref h3, .ref h5, .ref h7, .ref h9, .ref h11, .ref h13, v14, v15])), (h2, .inr (11, [.ref h15, .int 0])), (h3, .inr (11, [.ref h4, .int 0])), (h4, .inl (cc0, 4960, .inl f0)), (h5, .inr (11, [.ref h6, .int 0])), (h6, .inl (cc1, 4960, .inl f1)), (h7, .inr (11, [.ref h8, .int 0])), (h8, .inl (cc2, 4960, .inl f2)), (h9, .inr (11, [.ref h10, .int 0])), (h10, .inl (cc3, 4960, .inl f3)), (h11, .inr (11, [.ref h12, .int 0])), (h12, .inl (cc4, 4960, .inl f4)), (h13, .inr (11, [.ref h14, .int 0])), (h14, .inl (cc5, 4960, .inl f5)), (h15, .inl (cc6, 80, .inl f6))] sz) U U.heap)) (va_Qi (fun (r : Int32) (_ : Unit) => r = 0) (fun _ t => va_P (dC, dI) vwCl [(h4, .inl (cc0, 4960, .inl (upd (f0) 0 x0))), (h5, .inr (11, [.ref h6, .int 1])), (h6, .inl (cc1, 4960, .inl (upd (f1) 0 0))), (h7, .inr (11, [.ref h8, .int 1])), (h8, .inl (cc2, 4960, .inl (upd (f2) 0 0))), (h9, .inr (11, [.ref h10, .int 1])), (h10, .inl (cc3, 4960, .inl (upd (f3) 0 0))), (h11, .inr (11, [.ref h12, .int 1])), (h12, .inl (cc4, 4960, .inl (upd (f4) 0 1))), (h13, .inr (11, [.ref h14, .int 1])), (h14, .inl (cc5, 4960, .inl (upd (f5) 0 1))), (h3, .inr (11, [.ref h4, .int 1])), (h0, .inr (16, [.ref h1, v0, v1, v2, v3, v4, v5, v6, v7, v8, v9, v10, v11, v12, v13, .int 1])), (h1, .inr (10, [.ref h2, .ref h3, .ref h5, .ref h7, .ref h9, .ref h11, .ref h13, v14, v15])), (h15, .inl (cc6, 80, .inl (upd (f6) 0 0))), (h2, .inr (11, [.ref h15, .int 1]))] t.heap ∧ va_K (dC, dI) vwCl [(cc0, .int), (cc1, .int), (cc2, .int), (cc3, .int), (cc4, .int), (cc5, .int), (cc6, .int)] t ∧ va_D (va_A [(h0, .inr (16, [.ref h1, v0, v1, v2, v3, v4, v5, v6, v7, v8, v9, v10, v11, v12, v13, .int 0])), (h1, .inr (10, [.ref h2, .ref h3, .ref h5, .ref h7, .ref h9, .ref h11, .ref h13, v14, v15])), (h2, .inr (11, [.ref h15, .int 0])), (h3, .inr (11, [.ref h4, .int 0])), (h4, .inl (cc0, 4960, .inl f0)), (h5, .inr (11, [.ref h6, .int 0])), (h6, .inl (cc1, 4960, .inl f1)), (h7, .inr (11, [.ref h8, .int 0])), (h8, .inl (cc2, 4960, .inl f2)), (h9, .inr (11, [.ref h10, .int 0])), (h10, .inl (cc3, 4960, .inl f3)), (h11, .inr (11, [.ref h12, .int 0])), (h12, .inl (cc4, 4960, .inl f4)), (h13, .inr (11, [.ref h14, .int 0])), (h14, .inl (cc5, 4960, .inl f5)), (h15, .inl (cc6, 80, .inl f6))] sz) [(h4, .inl (cc0, 4960, .inl (upd (f0) 0 x0))), (h5, .inr (11, [.ref h6, .int 1])), (h6, .inl (cc1, 4960, .inl (upd (f1) 0 0))), (h7, .inr (11, [.ref h8, .int 1])), (h8, .inl (cc2, 4960, .inl (upd (f2) 0 0))), (h9, .inr (11, [.ref h10, .int 1])), (h10, .inl (cc3, 4960, .inl (upd (f3) 0 0))), (h11, .inr (11, [.ref h12, .int 1])), (h12, .inl (cc4, 4960, .inl (upd (f4) 0 1))), (h13, .inr (11, [.ref h14, .int 1])), (h14, .inl (cc5, 4960, .inl (upd (f5) 0 1))), (h3, .inr (11, [.ref h4, .int 1])), (h0, .inr (16, [.ref h1, v0, v1, v2, v3, v4, v5, v6, v7, v8, v9, v10, v11, v12, v13, .int 1])), (h1, .inr (10, [.ref h2, .ref h3, .ref h5, .ref h7, .ref h9, .ref h11, .ref h13, v14, v15])), (h15, .inl (cc6, 80, .inl (upd (f6) 0 0))), (h2, .inr (11, [.ref h15, .int 1]))]) (va_A [(h0, .inr (16, [.ref h1, v0, v1, v2, v3, v4, v5, v6, v7, v8, v9, v10, v11, v12, v13, .int 0])), (h1, .inr (10, [.ref h2, .ref h3, .ref h5, .ref h7, .ref h9, .ref h11, .ref h13, v14, v15])), (h2, .inr (11, [.ref h15, .int 0])), (h3, .inr (11, [.ref h4, .int 0])), (h4, .inl (cc0, 4960, .inl f0)), (h5, .inr (11, [.ref h6, .int 0])), (h6, .inl (cc1, 4960, .inl f1)), (h7, .inr (11, [.ref h8, .int 0])), (h8, .inl (cc2, 4960, .inl f2)), (h9, .inr (11, [.ref h10, .int 0])), (h10, .inl (cc3, 4960, .inl f3)), (h11, .inr (11, [.ref h12, .int 0])), (h12, .inl (cc4, 4960, .inl f4)), (h13, .inr (11, [.ref h14, .int 0])), (h14, .inl (cc5, 4960, .inl f5)), (h15, .inl (cc6, 80, .inl f6))] sz)) 0 0 (va_A [(h0, .inr (16, [.ref h1, v0, v1, v2, v3, v4, v5, v6, v7, v8, v9, v10, v11, v12, v13, .int 0])), (h1, .inr (10, [.ref h2, .ref h3, .ref h5, .ref h7, .ref h9, .ref h11, .ref h13, v14, v15])), (h2, .inr (11, [.ref h15, .int 0])), (h3, .inr (11, [.ref h4, .int 0])), (h4, .inl (cc0, 4960, .inl f0)), (h5, .inr (11, [.ref h6, .int 0])), (h6, .inl (cc1, 4960, .inl f1)), (h7, .inr (11, [.ref h8, .int 0])), (h8, .inl (cc2, 4960, .inl f2)), (h9, .inr (11, [.ref h10, .int 0])), (h10, .inl (cc3, 4960, .inl f3)), (h11, .inr (11, [.ref h12, .int 0])), (h12, .inl (cc4, 4960, .inl f4)), (h13, .inr (11, [.ref h14, .int 0])), (h14, .inl (cc5, 4960, .inl f5)), (h15, .inl (cc6, 80, .inl f6))] sz) := by
  refine Met.ofW (cc := cX9_mark) (maxL := 2) (ret := (some .int)) (by decide) rfl ?_
  intro p e s m args below meth c s₁ B hml hv
  obtain ⟨rfl, hsz, hP, hK, hD0, hF⟩ := hv
  have hx := B.exec
  have hb := B.bytes
  have hr := B.returns
  have hts := atoms_spec (ws := wsX9_mark) B.pre
  have hown : s.vm.findClass RX9 = some m.cls := findClass_of_methodNamed B.named
  have hlocks := B.notSynchronized
  subst hsz
  have hD := hD0.self (sz := s.heap.size)
  generalize hAe : va_A [(h0, .inr (16, [.ref h1, v0, v1, v2, v3, v4, v5, v6, v7, v8, v9, v10, v11, v12, v13, .int 0])), (h1, .inr (10, [.ref h2, .ref h3, .ref h5, .ref h7, .ref h9, .ref h11, .ref h13, v14, v15])), (h2, .inr (11, [.ref h15, .int 0])), (h3, .inr (11, [.ref h4, .int 0])), (h4, .inl (cc0, 4960, .inl f0)), (h5, .inr (11, [.ref h6, .int 0])), (h6, .inl (cc1, 4960, .inl f1)), (h7, .inr (11, [.ref h8, .int 0])), (h8, .inl (cc2, 4960, .inl f2)), (h9, .inr (11, [.ref h10, .int 0])), (h10, .inl (cc3, 4960, .inl f3)), (h11, .inr (11, [.ref h12, .int 0])), (h12, .inl (cc4, 4960, .inl f4)), (h13, .inr (11, [.ref h14, .int 0])), (h14, .inl (cc5, 4960, .inl f5)), (h15, .inl (cc6, 80, .inl f6))] s.heap.size = A at hD hF ⊢
  have hA : ∀ q : Nat, s.heap.size ≤ q → A q := fun q h => by rw [← hAe]; exact Or.inr h
  have hS : va_S A s.heap s.heap [] := va_S.rf
  have hP : va_P (dC, dI) vwCl [(h0, .inr (16, [.ref h1, v0, v1, v2, v3, v4, v5, v6, v7, v8, v9, v10, v11, v12, v13, .int 0])), (h1, .inr (10, [.ref h2, .ref h3, .ref h5, .ref h7, .ref h9, .ref h11, .ref h13, v14, v15])), (h2, .inr (11, [.ref h15, .int 0])), (h3, .inr (11, [.ref h4, .int 0])), (h4, .inl (cc0, 4960, .inl f0)), (h5, .inr (11, [.ref h6, .int 0])), (h6, .inl (cc1, 4960, .inl f1)), (h7, .inr (11, [.ref h8, .int 0])), (h8, .inl (cc2, 4960, .inl f2)), (h9, .inr (11, [.ref h10, .int 0])), (h10, .inl (cc3, 4960, .inl f3)), (h11, .inr (11, [.ref h12, .int 0])), (h12, .inl (cc4, 4960, .inl f4)), (h13, .inr (11, [.ref h14, .int 0])), (h14, .inl (cc5, 4960, .inl f5)), (h15, .inl (cc6, 80, .inl f6))] s.heap := hP
  have hl := lv_entry ([.ref h0, .int x0]) (n := 2) (Nat.le_of_ble_eq_true rfl)
  rw [lg_entry_eq]
  generalize (lg_sl ([.ref h0, .int x0]) ++ List.replicate (2 - (lg_sl ([.ref h0, .int x0])).length) Slot.unset).toArray = ls at hl ⊢
  have hl : lv_has ls 2 [(0, .ref h0), (1, .int x0)] := hl
  refine lv_iload_n hx hb dX9_mark_0 rfl (lv_at hl 1 rfl) ?_
  refine lv_iconst (v := 1) hx hb dX9_mark_1 (by decide) ?_
  refine lv_icmp_lt (tgt := 10) hx hb dX9_mark_2 (by decide) (fun c1 => absurd c1 (fun z => absurd (Int32.lt_iff_toInt_lt.mp z : x0.toInt < (1 : Int)) (by omega))) (fun c1 => ?_)
  refine lv_iload_n hx hb dX9_mark_5 rfl (lv_at hl 1 rfl) ?_
  refine lv_iconst (v := 4) hx hb dX9_mark_6 (by decide) ?_
  refine lv_icmp_le (tgt := 20) hx hb dX9_mark_7 (by decide) (fun c2 => ?_) (fun c2 => absurd (Int32.le_iff_toInt_le.mpr (show x0.toInt ≤ (4 : Int) by omega)) c2)
  refine lv_aload_n hx hb dX9_mark_20 rfl (lv_at hl 0 rfl) ?_
  have hPc := hP.sub (ws' := [(h0, .inr (16, [.ref h1, v0, v1, v2, v3, v4, v5, v6, v7, v8, v9, v10, v11, v12, v13, .int 0])), (h1, .inr (10, [.ref h2, .ref h3, .ref h5, .ref h7, .ref h9, .ref h11, .ref h13, v14, v15])), (h2, .inr (11, [.ref h15, .int 0]))]) [0, 1, 2] rfl
  have hDc := hD.sub (ws' := [(h0, .inr (16, [.ref h1, v0, v1, v2, v3, v4, v5, v6, v7, v8, v9, v10, v11, v12, v13, .int 0])), (h1, .inr (10, [.ref h2, .ref h3, .ref h5, .ref h7, .ref h9, .ref h11, .ref h13, v14, v15])), (h2, .inr (11, [.ref h15, .int 0]))]) [0, 1, 2] (by decide) rfl
  have hKc := hK.sub (tys' := []) [] rfl
  have hFc := va_free (wc := [(h0, .inr (16, [.ref h1, v0, v1, v2, v3, v4, v5, v6, v7, v8, v9, v10, v11, v12, v13, .int 0])), (h1, .inr (10, [.ref h2, .ref h3, .ref h5, .ref h7, .ref h9, .ref h11, .ref h13, v14, v15])), (h2, .inr (11, [.ref h15, .int 0]))]) hD hS hA [0, 1, 2] rfl
  refine va_callv (va_runV (As := []) (rest := []) ⟨hx, hb, hml, hown, hts⟩ (kX9_needNumber l dC dI g s.heap.size h0 h1 h2 v0 v1 v2 v3 v4 v5 v6 v7 v8 v9 v10 v11 v12 v13 (.int 0) (.ref h3) (.ref h5) (.ref h7) (.ref h9) (.ref h11) (.ref h13) v14 v15 (.ref h15) ) (cwV 0 hts gX9_mark_X9_needNumber rfl rfl rfl (by decide +kernel) ⟨Nat.le_of_ble_eq_true rfl, Nat.le_of_ble_eq_true rfl⟩) ⟨fun a U gg mk q => by obtain ⟨q0, q1, qP, qK, qD, qF⟩ := q; exact ⟨q0, q1, qP, va_K.moved (u := U) (U := U.calling gg mk a) (Vm.Alike.refl U.vm) qK, qD, ns_same qF⟩, va_recv hK hP (ci := 16) (q0 := 0) rfl rfl, fun U hU hW => ⟨rfl, by rw [hU], by rw [hU]; exact hPc, va_K.moved hW.alike hKc, hDc.weaken (fun _ _ _ _ => trivial), ns_call hF hS hFc hU hW⟩⟩ rfl rfl hl.1 rfl (lv_room (Nat.le_of_ble_eq_true rfl)) dX9_mark_21 ⟨Nat.le_of_ble_eq_true rfl, Nat.le_of_ble_eq_true rfl⟩) hS (fun q _ h => hFc q h) hFc (fun u t H1 locs ht hvm hw hB hz1 hk1 hS => ?_)
  obtain ⟨hP1, hK1, hD1⟩ := hB
  rw [ht] at hP1
  have hK1 := va_K.moved hvm.symm hK1
  obtain ⟨hP, hD⟩ := va_join (wr := [(h3, .inr (11, [.ref h4, .int 0])), (h4, .inl (cc0, 4960, .inl f0)), (h5, .inr (11, [.ref h6, .int 0])), (h6, .inl (cc1, 4960, .inl f1)), (h7, .inr (11, [.ref h8, .int 0])), (h8, .inl (cc2, 4960, .inl f2)), (h9, .inr (11, [.ref h10, .int 0])), (h10, .inl (cc3, 4960, .inl f3)), (h11, .inr (11, [.ref h12, .int 0])), (h12, .inl (cc4, 4960, .inl f4)), (h13, .inr (11, [.ref h14, .int 0])), (h14, .inl (cc5, 4960, .inl f5)), (h15, .inl (cc6, 80, .inl f6))]) (w1 := [(h0, .inr (16, [.ref h1, v0, v1, v2, v3, v4, v5, v6, v7, v8, v9, v10, v11, v12, v13, .int 0])), (h1, .inr (10, [.ref h2, .ref h3, .ref h5, .ref h7, .ref h9, .ref h11, .ref h13, v14, v15])), (h2, .inr (11, [.ref h15, .int 0]))]) hP hD [0, 1, 2] [3, 4, 5, 6, 7, 8, 9, 10, 11, 12, 13, 14, 15] rfl rfl (by decide) (by decide) hk1 hFc hP1 hD1
  have hK := (hK.sub (tys' := [(cc0, .int), (cc1, .int), (cc2, .int), (cc3, .int), (cc4, .int), (cc5, .int), (cc6, .int)]) [0, 1, 2, 3, 4, 5, 6] rfl).app hK1
  generalize H1 = H at hP hS ⊢
  have hP : va_P (dC, dI) vwCl [(h3, .inr (11, [.ref h4, .int 0])), (h4, .inl (cc0, 4960, .inl f0)), (h5, .inr (11, [.ref h6, .int 0])), (h6, .inl (cc1, 4960, .inl f1)), (h7, .inr (11, [.ref h8, .int 0])), (h8, .inl (cc2, 4960, .inl f2)), (h9, .inr (11, [.ref h10, .int 0])), (h10, .inl (cc3, 4960, .inl f3)), (h11, .inr (11, [.ref h12, .int 0])), (h12, .inl (cc4, 4960, .inl f4)), (h13, .inr (11, [.ref h14, .int 0])), (h14, .inl (cc5, 4960, .inl f5)), (h15, .inl (cc6, 80, .inl f6)), (h0, .inr (16, [.ref h1, v0, v1, v2, v3, v4, v5, v6, v7, v8, v9, v10, v11, v12, v13, .int 0])), (h1, .inr (10, [.ref h2, .ref h3, .ref h5, .ref h7, .ref h9, .ref h11, .ref h13, v14, v15])), (h2, .inr (11, [.ref h15, .int 0]))] H := hP
  have hD : va_D A [(h3, .inr (11, [.ref h4, .int 0])), (h4, .inl (cc0, 4960, .inl f0)), (h5, .inr (11, [.ref h6, .int 0])), (h6, .inl (cc1, 4960, .inl f1)), (h7, .inr (11, [.ref h8, .int 0])), (h8, .inl (cc2, 4960, .inl f2)), (h9, .inr (11, [.ref h10, .int 0])), (h10, .inl (cc3, 4960, .inl f3)), (h11, .inr (11, [.ref h12, .int 0])), (h12, .inl (cc4, 4960, .inl f4)), (h13, .inr (11, [.ref h14, .int 0])), (h14, .inl (cc5, 4960, .inl f5)), (h15, .inl (cc6, 80, .inl f6)), (h0, .inr (16, [.ref h1, v0, v1, v2, v3, v4, v5, v6, v7, v8, v9, v10, v11, v12, v13, .int 0])), (h1, .inr (10, [.ref h2, .ref h3, .ref h5, .ref h7, .ref h9, .ref h11, .ref h13, v14, v15])), (h2, .inr (11, [.ref h15, .int 0]))] := hD
  have hK : va_K (dC, dI) vwCl [(cc0, .int), (cc1, .int), (cc2, .int), (cc3, .int), (cc4, .int), (cc5, .int), (cc6, .int)] s := hK
  refine W.widen (k := 0) (n := 0) (Nat.le_of_ble_eq_true rfl) (Nat.le_of_ble_eq_true rfl) ?_
  refine lv_aload_n hx hb dX9_mark_24 rfl (lv_at hl 0 rfl) ?_
  refine lv_aload_n hx hb dX9_mark_25 rfl (lv_at hl 0 rfl) ?_
  refine va_get (D := (dC, dI)) (ci := 16) (v := .ref h1) (C := RX9) (T := TX9) (N := 16) hx hb hts (by decide +kernel) hown hK hP 13 rfl rfl 0 (by decide) (hts (.fieldLink RX9 12 "Nestprint" "nodes" "LNestprint$Nodes;") (by decide +kernel)) (fun _ h9 => h9) rfl dX9_mark_26 ?_
  refine lv_iload_n hx hb dX9_mark_29 rfl (lv_at hl 1 rfl) ?_
  have hPc := hP.sub (ws' := [(h1, .inr (10, [.ref h2, .ref h3, .ref h5, .ref h7, .ref h9, .ref h11, .ref h13, v14, v15])), (h3, .inr (11, [.ref h4, .int 0])), (h4, .inl (cc0, 4960, .inl f0)), (h5, .inr (11, [.ref h6, .int 0])), (h6, .inl (cc1, 4960, .inl f1)), (h7, .inr (11, [.ref h8, .int 0])), (h8, .inl (cc2, 4960, .inl f2)), (h9, .inr (11, [.ref h10, .int 0])), (h10, .inl (cc3, 4960, .inl f3)), (h11, .inr (11, [.ref h12, .int 0])), (h12, .inl (cc4, 4960, .inl f4)), (h13, .inr (11, [.ref h14, .int 0])), (h14, .inl (cc5, 4960, .inl f5))]) [14, 0, 1, 2, 3, 4, 5, 6, 7, 8, 9, 10, 11] rfl
  have hDc := hD.sub (ws' := [(h1, .inr (10, [.ref h2, .ref h3, .ref h5, .ref h7, .ref h9, .ref h11, .ref h13, v14, v15])), (h3, .inr (11, [.ref h4, .int 0])), (h4, .inl (cc0, 4960, .inl f0)), (h5, .inr (11, [.ref h6, .int 0])), (h6, .inl (cc1, 4960, .inl f1)), (h7, .inr (11, [.ref h8, .int 0])), (h8, .inl (cc2, 4960, .inl f2)), (h9, .inr (11, [.ref h10, .int 0])), (h10, .inl (cc3, 4960, .inl f3)), (h11, .inr (11, [.ref h12, .int 0])), (h12, .inl (cc4, 4960, .inl f4)), (h13, .inr (11, [.ref h14, .int 0])), (h14, .inl (cc5, 4960, .inl f5))]) [14, 0, 1, 2, 3, 4, 5, 6, 7, 8, 9, 10, 11] (by decide) rfl
  have hKc := hK.sub (tys' := [(cc0, .int), (cc1, .int), (cc2, .int), (cc3, .int), (cc4, .int), (cc5, .int)]) [0, 1, 2, 3, 4, 5] rfl
  have hFc := va_free (wc := [(h1, .inr (10, [.ref h2, .ref h3, .ref h5, .ref h7, .ref h9, .ref h11, .ref h13, v14, v15])), (h3, .inr (11, [.ref h4, .int 0])), (h4, .inl (cc0, 4960, .inl f0)), (h5, .inr (11, [.ref h6, .int 0])), (h6, .inl (cc1, 4960, .inl f1)), (h7, .inr (11, [.ref h8, .int 0])), (h8, .inl (cc2, 4960, .inl f2)), (h9, .inr (11, [.ref h10, .int 0])), (h10, .inl (cc3, 4960, .inl f3)), (h11, .inr (11, [.ref h12, .int 0])), (h12, .inl (cc4, 4960, .inl f4)), (h13, .inr (11, [.ref h14, .int 0])), (h14, .inl (cc5, 4960, .inl f5))]) hD hS hA [14, 0, 1, 2, 3, 4, 5, 6, 7, 8, 9, 10, 11] rfl
  refine va_calli (va_runV (As := [.int x0]) (rest := [.ref h0]) ⟨hx, hb, hml, hown, hts⟩ (kX3_addMark l dC dI g H.size h1 x0 h3 h4 h5 h6 h7 h8 h9 h10 h11 h12 h13 h14 (.ref h2) v14 v15 cc0 f0 cc1 f1 cc2 f2 cc3 f3 cc4 f4 cc5 f5 ⟨by omega, by omega⟩) (cwV 1 hts gX9_mark_X3_addMark rfl rfl rfl (by decide +kernel) ⟨Nat.le_of_ble_eq_true rfl, Nat.le_of_ble_eq_true rfl⟩) ⟨fun a U gg mk q => by obtain ⟨q0, q1, qP, qK, qD, qF⟩ := q; exact ⟨q0, q1, qP, va_K.moved (u := U) (U := U.calling gg mk a) (Vm.Alike.refl U.vm) qK, qD, ns_same qF⟩, va_recv hK hP (ci := 10) (q0 := 14) rfl rfl, fun U hU hW => ⟨rfl, by rw [hU], by rw [hU]; exact hPc, va_K.moved hW.alike hKc, hDc.weaken (fun _ _ _ _ => trivial), ns_call hF hS hFc hU hW⟩⟩ rfl rfl hl.1 rfl (lv_room (Nat.le_of_ble_eq_true rfl)) dX9_mark_30 ⟨Nat.le_of_ble_eq_true rfl, Nat.le_of_ble_eq_true rfl⟩) hS (fun q _ h => hFc q h) hFc (fun r9 u t H1 locs ht hvm hw hB hz1 hk1 hS => ?_)
  obtain rfl := hw
  obtain ⟨hP1, hK1, hD1⟩ := hB
  rw [ht] at hP1
  have hK1 := va_K.moved hvm.symm hK1
  obtain ⟨hP, hD⟩ := va_join (wr := [(h15, .inl (cc6, 80, .inl f6)), (h0, .inr (16, [.ref h1, v0, v1, v2, v3, v4, v5, v6, v7, v8, v9, v10, v11, v12, v13, .int 0])), (h2, .inr (11, [.ref h15, .int 0]))]) (w1 := [(h1, .inr (10, [.ref h2, .ref h3, .ref h5, .ref h7, .ref h9, .ref h11, .ref h13, v14, v15])), (h4, .inl (cc0, 4960, .inl (upd (f0) 0 x0))), (h5, .inr (11, [.ref h6, .int 1])), (h6, .inl (cc1, 4960, .inl (upd (f1) 0 0))), (h7, .inr (11, [.ref h8, .int 1])), (h8, .inl (cc2, 4960, .inl (upd (f2) 0 0))), (h9, .inr (11, [.ref h10, .int 1])), (h10, .inl (cc3, 4960, .inl (upd (f3) 0 0))), (h11, .inr (11, [.ref h12, .int 1])), (h12, .inl (cc4, 4960, .inl (upd (f4) 0 1))), (h13, .inr (11, [.ref h14, .int 1])), (h14, .inl (cc5, 4960, .inl (upd (f5) 0 1))), (h3, .inr (11, [.ref h4, .int 1]))]) hP hD [14, 0, 1, 2, 3, 4, 5, 6, 7, 8, 9, 10, 11] [12, 13, 15] rfl rfl (by decide) (by decide) hk1 hFc hP1 hD1
  have hK := (hK.sub (tys' := [(cc6, .int)]) [6] rfl).app hK1
  generalize H1 = H at hP hS ⊢
  have hP : va_P (dC, dI) vwCl [(h15, .inl (cc6, 80, .inl f6)), (h0, .inr (16, [.ref h1, v0, v1, v2, v3, v4, v5, v6, v7, v8, v9, v10, v11, v12, v13, .int 0])), (h2, .inr (11, [.ref h15, .int 0])), (h1, .inr (10, [.ref h2, .ref h3, .ref h5, .ref h7, .ref h9, .ref h11, .ref h13, v14, v15])), (h4, .inl (cc0, 4960, .inl (upd (f0) 0 x0))), (h5, .inr (11, [.ref h6, .int 1])), (h6, .inl (cc1, 4960, .inl (upd (f1) 0 0))), (h7, .inr (11, [.ref h8, .int 1])), (h8, .inl (cc2, 4960, .inl (upd (f2) 0 0))), (h9, .inr (11, [.ref h10, .int 1])), (h10, .inl (cc3, 4960, .inl (upd (f3) 0 0))), (h11, .inr (11, [.ref h12, .int 1])), (h12, .inl (cc4, 4960, .inl (upd (f4) 0 1))), (h13, .inr (11, [.ref h14, .int 1])), (h14, .inl (cc5, 4960, .inl (upd (f5) 0 1))), (h3, .inr (11, [.ref h4, .int 1]))] H := hP
  have hD : va_D A [(h15, .inl (cc6, 80, .inl f6)), (h0, .inr (16, [.ref h1, v0, v1, v2, v3, v4, v5, v6, v7, v8, v9, v10, v11, v12, v13, .int 0])), (h2, .inr (11, [.ref h15, .int 0])), (h1, .inr (10, [.ref h2, .ref h3, .ref h5, .ref h7, .ref h9, .ref h11, .ref h13, v14, v15])), (h4, .inl (cc0, 4960, .inl (upd (f0) 0 x0))), (h5, .inr (11, [.ref h6, .int 1])), (h6, .inl (cc1, 4960, .inl (upd (f1) 0 0))), (h7, .inr (11, [.ref h8, .int 1])), (h8, .inl (cc2, 4960, .inl (upd (f2) 0 0))), (h9, .inr (11, [.ref h10, .int 1])), (h10, .inl (cc3, 4960, .inl (upd (f3) 0 0))), (h11, .inr (11, [.ref h12, .int 1])), (h12, .inl (cc4, 4960, .inl (upd (f4) 0 1))), (h13, .inr (11, [.ref h14, .int 1])), (h14, .inl (cc5, 4960, .inl (upd (f5) 0 1))), (h3, .inr (11, [.ref h4, .int 1]))] := hD
  have hK : va_K (dC, dI) vwCl [(cc6, .int), (cc0, .int), (cc1, .int), (cc2, .int), (cc3, .int), (cc4, .int), (cc5, .int)] s := hK
  refine W.widen (k := 0) (n := 0) (Nat.le_of_ble_eq_true rfl) (Nat.le_of_ble_eq_true rfl) ?_
  have hPc := hP.sub (ws' := [(h0, .inr (16, [.ref h1, v0, v1, v2, v3, v4, v5, v6, v7, v8, v9, v10, v11, v12, v13, .int 0])), (h1, .inr (10, [.ref h2, .ref h3, .ref h5, .ref h7, .ref h9, .ref h11, .ref h13, v14, v15])), (h2, .inr (11, [.ref h15, .int 0])), (h15, .inl (cc6, 80, .inl f6))]) [1, 3, 2, 0] rfl
  have hDc := hD.sub (ws' := [(h0, .inr (16, [.ref h1, v0, v1, v2, v3, v4, v5, v6, v7, v8, v9, v10, v11, v12, v13, .int 0])), (h1, .inr (10, [.ref h2, .ref h3, .ref h5, .ref h7, .ref h9, .ref h11, .ref h13, v14, v15])), (h2, .inr (11, [.ref h15, .int 0])), (h15, .inl (cc6, 80, .inl f6))]) [1, 3, 2, 0] (by decide) rfl
  have hKc := hK.sub (tys' := [(cc6, .int)]) [0] rfl
  have hFc := va_free (wc := [(h0, .inr (16, [.ref h1, v0, v1, v2, v3, v4, v5, v6, v7, v8, v9, v10, v11, v12, v13, .int 0])), (h1, .inr (10, [.ref h2, .ref h3, .ref h5, .ref h7, .ref h9, .ref h11, .ref h13, v14, v15])), (h2, .inr (11, [.ref h15, .int 0])), (h15, .inl (cc6, 80, .inl f6))]) hD hS hA [1, 3, 2, 0] rfl
  refine va_calli (va_runV (As := [.int 0]) (rest := []) ⟨hx, hb, hml, hown, hts⟩ (kX9_numbered l dC dI g H.size h0 h1 h2 h15 v0 v1 v2 v3 v4 v5 v6 v7 v8 v9 v10 v11 v12 v13 (.ref h3) (.ref h5) (.ref h7) (.ref h9) (.ref h11) (.ref h13) v14 v15 cc6 f6 ) (cwV 1 hts gX9_mark_X9_numbered rfl rfl rfl (by decide +kernel) ⟨Nat.le_of_ble_eq_true rfl, Nat.le_of_ble_eq_true rfl⟩) ⟨fun a U gg mk q => by obtain ⟨q0, q1, qP, qK, qD, qF⟩ := q; exact ⟨q0, q1, qP, va_K.moved (u := U) (U := U.calling gg mk a) (Vm.Alike.refl U.vm) qK, qD, ns_same qF⟩, va_recv hK hP (ci := 16) (q0 := 1) rfl rfl, fun U hU hW => ⟨rfl, by rw [hU], by rw [hU]; exact hPc, va_K.moved hW.alike hKc, hDc.weaken (fun _ _ _ _ => trivial), ns_call hF hS hFc hU hW⟩⟩ rfl rfl hl.1 rfl (lv_room (Nat.le_of_ble_eq_true rfl)) dX9_mark_33 ⟨Nat.le_of_ble_eq_true rfl, Nat.le_of_ble_eq_true rfl⟩) hS (fun q _ h => hFc q h) hFc (fun r9 u t H1 locs ht hvm hw hB hz1 hk1 hS => ?_)
  obtain rfl := hw
  obtain ⟨hP1, hK1, hD1⟩ := hB
  rw [ht] at hP1
  have hK1 := va_K.moved hvm.symm hK1
  obtain ⟨hP, hD⟩ := va_join (wr := [(h4, .inl (cc0, 4960, .inl (upd (f0) 0 x0))), (h5, .inr (11, [.ref h6, .int 1])), (h6, .inl (cc1, 4960, .inl (upd (f1) 0 0))), (h7, .inr (11, [.ref h8, .int 1])), (h8, .inl (cc2, 4960, .inl (upd (f2) 0 0))), (h9, .inr (11, [.ref h10, .int 1])), (h10, .inl (cc3, 4960, .inl (upd (f3) 0 0))), (h11, .inr (11, [.ref h12, .int 1])), (h12, .inl (cc4, 4960, .inl (upd (f4) 0 1))), (h13, .inr (11, [.ref h14, .int 1])), (h14, .inl (cc5, 4960, .inl (upd (f5) 0 1))), (h3, .inr (11, [.ref h4, .int 1]))]) (w1 := [(h0, .inr (16, [.ref h1, v0, v1, v2, v3, v4, v5, v6, v7, v8, v9, v10, v11, v12, v13, .int 1])), (h1, .inr (10, [.ref h2, .ref h3, .ref h5, .ref h7, .ref h9, .ref h11, .ref h13, v14, v15])), (h15, .inl (cc6, 80, .inl (upd (f6) 0 0))), (h2, .inr (11, [.ref h15, .int 1]))]) hP hD [1, 3, 2, 0] [4, 5, 6, 7, 8, 9, 10, 11, 12, 13, 14, 15] rfl rfl (by decide) (by decide) hk1 hFc hP1 hD1
  have hK := (hK.sub (tys' := [(cc0, .int), (cc1, .int), (cc2, .int), (cc3, .int), (cc4, .int), (cc5, .int)]) [1, 2, 3, 4, 5, 6] rfl).app hK1
  generalize H1 = H at hP hS ⊢
  have hP : va_P (dC, dI) vwCl [(h4, .inl (cc0, 4960, .inl (upd (f0) 0 x0))), (h5, .inr (11, [.ref h6, .int 1])), (h6, .inl (cc1, 4960, .inl (upd (f1) 0 0))), (h7, .inr (11, [.ref h8, .int 1])), (h8, .inl (cc2, 4960, .inl (upd (f2) 0 0))), (h9, .inr (11, [.ref h10, .int 1])), (h10, .inl (cc3, 4960, .inl (upd (f3) 0 0))), (h11, .inr (11, [.ref h12, .int 1])), (h12, .inl (cc4, 4960, .inl (upd (f4) 0 1))), (h13, .inr (11, [.ref h14, .int 1])), (h14, .inl (cc5, 4960, .inl (upd (f5) 0 1))), (h3, .inr (11, [.ref h4, .int 1])), (h0, .inr (16, [.ref h1, v0, v1, v2, v3, v4, v5, v6, v7, v8, v9, v10, v11, v12, v13, .int 1])), (h1, .inr (10, [.ref h2, .ref h3, .ref h5, .ref h7, .ref h9, .ref h11, .ref h13, v14, v15])), (h15, .inl (cc6, 80, .inl (upd (f6) 0 0))), (h2, .inr (11, [.ref h15, .int 1]))] H := hP
  have hD : va_D A [(h4, .inl (cc0, 4960, .inl (upd (f0) 0 x0))), (h5, .inr (11, [.ref h6, .int 1])), (h6, .inl (cc1, 4960, .inl (upd (f1) 0 0))), (h7, .inr (11, [.ref h8, .int 1])), (h8, .inl (cc2, 4960, .inl (upd (f2) 0 0))), (h9, .inr (11, [.ref h10, .int 1])), (h10, .inl (cc3, 4960, .inl (upd (f3) 0 0))), (h11, .inr (11, [.ref h12, .int 1])), (h12, .inl (cc4, 4960, .inl (upd (f4) 0 1))), (h13, .inr (11, [.ref h14, .int 1])), (h14, .inl (cc5, 4960, .inl (upd (f5) 0 1))), (h3, .inr (11, [.ref h4, .int 1])), (h0, .inr (16, [.ref h1, v0, v1, v2, v3, v4, v5, v6, v7, v8, v9, v10, v11, v12, v13, .int 1])), (h1, .inr (10, [.ref h2, .ref h3, .ref h5, .ref h7, .ref h9, .ref h11, .ref h13, v14, v15])), (h15, .inl (cc6, 80, .inl (upd (f6) 0 0))), (h2, .inr (11, [.ref h15, .int 1]))] := hD
  have hK : va_K (dC, dI) vwCl [(cc0, .int), (cc1, .int), (cc2, .int), (cc3, .int), (cc4, .int), (cc5, .int), (cc6, .int)] s := hK
  refine W.widen (k := 0) (n := 0) (Nat.le_of_ble_eq_true rfl) (Nat.le_of_ble_eq_true rfl) ?_
  have hP9 := hP.sub (ws' := [(h4, .inl (cc0, 4960, .inl (upd (f0) 0 x0))), (h5, .inr (11, [.ref h6, .int 1])), (h6, .inl (cc1, 4960, .inl (upd (f1) 0 0))), (h7, .inr (11, [.ref h8, .int 1])), (h8, .inl (cc2, 4960, .inl (upd (f2) 0 0))), (h9, .inr (11, [.ref h10, .int 1])), (h10, .inl (cc3, 4960, .inl (upd (f3) 0 0))), (h11, .inr (11, [.ref h12, .int 1])), (h12, .inl (cc4, 4960, .inl (upd (f4) 0 1))), (h13, .inr (11, [.ref h14, .int 1])), (h14, .inl (cc5, 4960, .inl (upd (f5) 0 1))), (h3, .inr (11, [.ref h4, .int 1])), (h0, .inr (16, [.ref h1, v0, v1, v2, v3, v4, v5, v6, v7, v8, v9, v10, v11, v12, v13, .int 1])), (h1, .inr (10, [.ref h2, .ref h3, .ref h5, .ref h7, .ref h9, .ref h11, .ref h13, v14, v15])), (h15, .inl (cc6, 80, .inl (upd (f6) 0 0))), (h2, .inr (11, [.ref h15, .int 1]))]) [0, 1, 2, 3, 4, 5, 6, 7, 8, 9, 10, 11, 12, 13, 14, 15] rfl
  have hD9 := hD.sub (ws' := [(h4, .inl (cc0, 4960, .inl (upd (f0) 0 x0))), (h5, .inr (11, [.ref h6, .int 1])), (h6, .inl (cc1, 4960, .inl (upd (f1) 0 0))), (h7, .inr (11, [.ref h8, .int 1])), (h8, .inl (cc2, 4960, .inl (upd (f2) 0 0))), (h9, .inr (11, [.ref h10, .int 1])), (h10, .inl (cc3, 4960, .inl (upd (f3) 0 0))), (h11, .inr (11, [.ref h12, .int 1])), (h12, .inl (cc4, 4960, .inl (upd (f4) 0 1))), (h13, .inr (11, [.ref h14, .int 1])), (h14, .inl (cc5, 4960, .inl (upd (f5) 0 1))), (h3, .inr (11, [.ref h4, .int 1])), (h0, .inr (16, [.ref h1, v0, v1, v2, v3, v4, v5, v6, v7, v8, v9, v10, v11, v12, v13, .int 1])), (h1, .inr (10, [.ref h2, .ref h3, .ref h5, .ref h7, .ref h9, .ref h11, .ref h13, v14, v15])), (h15, .inl (cc6, 80, .inl (upd (f6) 0 0))), (h2, .inr (11, [.ref h15, .int 1]))]) [0, 1, 2, 3, 4, 5, 6, 7, 8, 9, 10, 11, 12, 13, 14, 15] (by decide) rfl
  have hK9 := hK.sub (tys' := [(cc0, .int), (cc1, .int), (cc2, .int), (cc3, .int), (cc4, .int), (cc5, .int), (cc6, .int)]) [0, 1, 2, 3, 4, 5, 6] rfl
  refine W.widen (k := 0) (n := 0) (Nat.le_of_ble_eq_true rfl) (Nat.le_of_ble_eq_true rfl) ?_
  exact W.iret (v := 0) hx hb hr (fun t ht hW => ⟨⟨_, (), rfl, rfl, by rw [ht]; exact hP9, va_K.moved hW.alike hK9, hD9⟩, hS.F ht⟩) hS.2.2 dX9_mark_36
set_option maxHeartbeats 4000000 in
set_option maxRecDepth 100000 in
theorem kL_mark_2 (l : Launch) (dC : Nat → ClassId) (dI : Nat → Nat → Nat) (g : Nat → Nat) (sz : Nat) (h0 : Nat) (x0 : Int32) (h1 : Nat) (h2 : Nat) (h3 : Nat) (h4 : Nat) (h5 : Nat) (h6 : Nat) (h7 : Nat) (h8 : Nat) (h9 : Nat) (h10 : Nat) (h11 : Nat) (h12 : Nat) (h13 : Nat) (h14 : Nat) (h15 : Nat) (h16 : Nat) (v0 : Value) (v1 : Value) (v2 : Value) (v3 : Value) (v4 : Value) (v5 : Value) (v6 : Value) (v7 : Value) (v8 : Value) (v9 : Value) (v10 : Value) (v11 : Value) (v12 : Value) (v13 : Value) (v14 : Value) (v15 : Value) (cc0 : ClassId) (f0 : Nat → Int32) (cc1 : ClassId) (f1 : Nat → Int32) (cc2 : ClassId) (f2 : Nat → Int32) (cc3 : ClassId) (f3 : Nat → Int32) (cc4 : ClassId) (f4 : Nat → Int32) (cc5 : ClassId) (f5 : Nat → Int32) (cc6 : ClassId) (f6 : Nat → Int32) (v16 : Value) (v17 : Value) (ex0 : (1 : Int) ≤ x0.toInt ∧ x0.toInt ≤ (4 : Int)) : Met l yL_mark wsL_mark ({ frames := 4, cells := 0, slots := 0, locals := 89 }) (va_Pc [.ref h0, .int x0, .ref h1] (fun U => U.heap.size = sz ∧ va_P (dC, dI) vwCl [(h0, .inr (16, [.ref h2, v0, v1, v2, v3, v4, v5, v6, v7, v8, v9, v10, v11, v12, v13, .int 0])), (h2, .inr (10, [.ref h3, .ref h4, .ref h6, .ref h8, .ref h10, .ref h12, .ref h14, v14, v15])), (h3, .inr (11, [.ref h16, .int 0])), (h4, .inr (11, [.ref h5, .int 0])), (h5, .inl (cc0, 4960, .inl f0)), (h6, .inr (11, [.ref h7, .int 0])), (h7, .inl (cc1, 4960, .inl f1)), (h8, .inr (11, [.ref h9, .int 0])), (h9, .inl (cc2, 4960, .inl f2)), (h10, .inr (11, [.ref h11, .int 0])), (h11, .inl (cc3, 4960, .inl f3)), (h12, .inr (11, [.ref h13, .int 0])), (h13, .inl (cc4, 4960, .inl f4)), (h14, .inr (11, [.ref h15, .int 0])), (h15, .inl (cc5, 4960, .inl f5)), (h16, .inl (cc6, 80, .inl f6)), (h1, .inr (17, [v16, v17]))] U.heap ∧ va_K (dC, dI) vwCl [(cc0, .int), (cc1, .int), (cc2, .int), (cc3, .int), (cc4, .int), (cc5, .int), (cc6, .int)] U ∧ va_D (fun _ => True) [(h0, .inr (16, [.ref h2, v0, v1, v2, v3, v4, v5, v6, v7, v8, v9, v10, v11, v12, v13, .int 0])), (h2, .inr (10, [.ref h3, .ref h4, .ref h6, .ref h8, .ref h10, .ref h12, .ref h14, v14, v15])), (h3, .inr (11, [.ref h16, .int 0])), (h4, .inr (11, [.ref h5, .int 0])), (h5, .inl (cc0, 4960, .inl f0)), (h6, .inr (11, [.ref h7, .int 0])), (h7, .inl (cc1, 4960, .inl f1)), (h8, .inr (11, [.ref h9, .int 0])), (h9, .inl (cc2, 4960, .inl f2)), (h10, .inr (11, [.ref h11, .int 0])), (h11, .inl (cc3, 4960, .inl f3)), (h12, .inr (11, [.ref h13, .int 0])), (h13, .inl (cc4, 4960, .inl f4)), (h14, .inr (11, [.ref h15, .int 0])), (h15, .inl (cc5, 4960, .inl f5)), (h16, .inl (cc6, 80, .inl f6)), (h1, .inr (17, [v16, v17]))] ∧ ns_F g (va_A [(h0, .inr (16, [.ref h2, v0, v1, v2, v3, v4, v5, v6, v7, v8, v9, v10, v11, v12, v13, .int 0])), (h2, .inr (10, [.ref h3, .ref h4, .ref h6, .ref h8, .ref h10, .ref h12, .ref h14, v14, v15])), (h3, .inr (11, [.ref h16, .int 0])), (h4, .inr (11, [.ref h5, .int 0])), (h5, .inl (cc0, 4960, .inl f0)), (h6, .inr (11, [.ref h7, .int 0])), (h7, .inl (cc1, 4960, .inl f1)), (h8, .inr (11, [.ref h9, .int 0])), (h9, .inl (cc2, 4960, .inl f2)), (h10, .inr (11, [.ref h11, .int 0])), (h11, .inl (cc3, 4960, .inl f3)), (h12, .inr (11, [.ref h13, .int 0])), (h13, .inl (cc4, 4960, .inl f4)), (h14, .inr (11, [.ref h15, .int 0])), (h15, .inl (cc5, 4960, .inl f5)), (h16, .inl (cc6, 80, .inl f6)), (h1, .inr (17, [v16, v17]))] sz) U U.heap)) (va_Qi (fun (r : Int32) (_ : Unit) => r = 0) (fun _ t => va_P (dC, dI) vwCl [(h1, .inr (17, [.long 0, v17])), (h5, .inl (cc0, 4960, .inl (upd (f0) 0 x0))), (h6, .inr (11, [.ref h7, .int 1])), (h7, .inl (cc1, 4960, .inl (upd (f1) 0 0))), (h8, .inr (11, [.ref h9, .int 1])), (h9, .inl (cc2, 4960, .inl (upd (f2) 0 0))), (h10, .inr (11, [.ref h11, .int 1])), (h11, .inl (cc3, 4960, .inl (upd (f3) 0 0))), (h12, .inr (11, [.ref h13, .int 1])), (h13, .inl (cc4, 4960, .inl (upd (f4) 0 1))), (h14, .inr (11, [.ref h15, .int 1])), (h15, .inl (cc5, 4960, .inl (upd (f5) 0 1))), (h4, .inr (11, [.ref h5, .int 1])), (h0, .inr (16, [.ref h2, v0, v1, v2, v3, v4, v5, v6, v7, v8, v9, v10, v11, v12, v13, .int 1])), (h2, .inr (10, [.ref h3, .ref h4, .ref h6, .ref h8, .ref h10, .ref h12, .ref h14, v14, v15])), (h16, .inl (cc6, 80, .inl (upd (f6) 0 0))), (h3, .inr (11, [.ref h16, .int 1]))] t.heap ∧ va_K (dC, dI) vwCl [(cc0, .int), (cc1, .int), (cc2, .int), (cc3, .int), (cc4, .int), (cc5, .int), (cc6, .int)] t ∧ va_D (va_A [(h0, .inr (16, [.ref h2, v0, v1, v2, v3, v4, v5, v6, v7, v8, v9, v10, v11, v12, v13, .int 0])), (h2, .inr (10, [.ref h3, .ref h4, .ref h6, .ref h8, .ref h10, .ref h12, .ref h14, v14, v15])), (h3, .inr (11, [.ref h16, .int 0])), (h4, .inr (11, [.ref h5, .int 0])), (h5, .inl (cc0, 4960, .inl f0)), (h6, .inr (11, [.ref h7, .int 0])), (h7, .inl (cc1, 4960, .inl f1)), (h8, .inr (11, [.ref h9, .int 0])), (h9, .inl (cc2, 4960, .inl f2)), (h10, .inr (11, [.ref h11, .int 0])), (h11, .inl (cc3, 4960, .inl f3)), (h12, .inr (11, [.ref h13, .int 0])), (h13, .inl (cc4, 4960, .inl f4)), (h14, .inr (11, [.ref h15, .int 0])), (h15, .inl (cc5, 4960, .inl f5)), (h16, .inl (cc6, 80, .inl f6)), (h1, .inr (17, [v16, v17]))] sz) [(h1, .inr (17, [.long 0, v17])), (h5, .inl (cc0, 4960, .inl (upd (f0) 0 x0))), (h6, .inr (11, [.ref h7, .int 1])), (h7, .inl (cc1, 4960, .inl (upd (f1) 0 0))), (h8, .inr (11, [.ref h9, .int 1])), (h9, .inl (cc2, 4960, .inl (upd (f2) 0 0))), (h10, .inr (11, [.ref h11, .int 1])), (h11, .inl (cc3, 4960, .inl (upd (f3) 0 0))), (h12, .inr (11, [.ref h13, .int 1])), (h13, .inl (cc4, 4960, .inl (upd (f4) 0 1))), (h14, .inr (11, [.ref h15, .int 1])), (h15, .inl (cc5, 4960, .inl (upd (f5) 0 1))), (h4, .inr (11, [.ref h5, .int 1])), (h0, .inr (16, [.ref h2, v0, v1, v2, v3, v4, v5, v6, v7, v8, v9, v10, v11, v12, v13, .int 1])), (h2, .inr (10, [.ref h3, .ref h4, .ref h6, .ref h8, .ref h10, .ref h12, .ref h14, v14, v15])), (h16, .inl (cc6, 80, .inl (upd (f6) 0 0))), (h3, .inr (11, [.ref h16, .int 1]))]) (va_A [(h0, .inr (16, [.ref h2, v0, v1, v2, v3, v4, v5, v6, v7, v8, v9, v10, v11, v12, v13, .int 0])), (h2, .inr (10, [.ref h3, .ref h4, .ref h6, .ref h8, .ref h10, .ref h12, .ref h14, v14, v15])), (h3, .inr (11, [.ref h16, .int 0])), (h4, .inr (11, [.ref h5, .int 0])), (h5, .inl (cc0, 4960, .inl f0)), (h6, .inr (11, [.ref h7, .int 0])), (h7, .inl (cc1, 4960, .inl f1)), (h8, .inr (11, [.ref h9, .int 0])), (h9, .inl (cc2, 4960, .inl f2)), (h10, .inr (11, [.ref h11, .int 0])), (h11, .inl (cc3, 4960, .inl f3)), (h12, .inr (11, [.ref h13, .int 0])), (h13, .inl (cc4, 4960, .inl f4)), (h14, .inr (11, [.ref h15, .int 0])), (h15, .inl (cc5, 4960, .inl f5)), (h16, .inl (cc6, 80, .inl f6)), (h1, .inr (17, [v16, v17]))] sz)) 0 0 (va_A [(h0, .inr (16, [.ref h2, v0, v1, v2, v3, v4, v5, v6, v7, v8, v9, v10, v11, v12, v13, .int 0])), (h2, .inr (10, [.ref h3, .ref h4, .ref h6, .ref h8, .ref h10, .ref h12, .ref h14, v14, v15])), (h3, .inr (11, [.ref h16, .int 0])), (h4, .inr (11, [.ref h5, .int 0])), (h5, .inl (cc0, 4960, .inl f0)), (h6, .inr (11, [.ref h7, .int 0])), (h7, .inl (cc1, 4960, .inl f1)), (h8, .inr (11, [.ref h9, .int 0])), (h9, .inl (cc2, 4960, .inl f2)), (h10, .inr (11, [.ref h11, .int 0])), (h11, .inl (cc3, 4960, .inl f3)), (h12, .inr (11, [.ref h13, .int 0])), (h13, .inl (cc4, 4960, .inl f4)), (h14, .inr (11, [.ref h15, .int 0])), (h15, .inl (cc5, 4960, .inl f5)), (h16, .inl (cc6, 80, .inl f6)), (h1, .inr (17, [v16, v17]))] sz) := by
  refine va_MetW (cc := cL_mark) (maxL := 4) (ret := (some .int)) (hh := [(0, 10, 13, 19), (0, 10, 16, 21)]) (by decide) rfl ?_
  intro p e s m args below meth c s₁ B hml hv
  obtain ⟨rfl, hsz, hP, hK, hD0, hF⟩ := hv
  have hx := B.exec
  have hb := B.bytes
  have hr := B.returns
  have hts := atoms_spec (ws := wsL_mark) B.pre
  have hown : s.vm.findClass RL = some m.cls := findClass_of_methodNamed B.named
  have hlocks := B.notSynchronized
  have htab : c.exceptionTable.toList = [⟨0, 10, 13, 19⟩, ⟨0, 10, 16, 21⟩] := vx_table B (hts _ List.mem_cons_self)
  subst hsz
  have hD := hD0.self (sz := s.heap.size)
  generalize hAe : va_A [(h0, .inr (16, [.ref h2, v0, v1, v2, v3, v4, v5, v6, v7, v8, v9, v10, v11, v12, v13, .int 0])), (h2, .inr (10, [.ref h3, .ref h4, .ref h6, .ref h8, .ref h10, .ref h12, .ref h14, v14, v15])), (h3, .inr (11, [.ref h16, .int 0])), (h4, .inr (11, [.ref h5, .int 0])), (h5, .inl (cc0, 4960, .inl f0)), (h6, .inr (11, [.ref h7, .int 0])), (h7, .inl (cc1, 4960, .inl f1)), (h8, .inr (11, [.ref h9, .int 0])), (h9, .inl (cc2, 4960, .inl f2)), (h10, .inr (11, [.ref h11, .int 0])), (h11, .inl (cc3, 4960, .inl f3)), (h12, .inr (11, [.ref h13, .int 0])), (h13, .inl (cc4, 4960, .inl f4)), (h14, .inr (11, [.ref h15, .int 0])), (h15, .inl (cc5, 4960, .inl f5)), (h16, .inl (cc6, 80, .inl f6)), (h1, .inr (17, [v16, v17]))] s.heap.size = A at hD hF ⊢
  have hA : ∀ q : Nat, s.heap.size ≤ q → A q := fun q h => by rw [← hAe]; exact Or.inr h
  have hS : va_S A s.heap s.heap [] := va_S.rf
  have hP : va_P (dC, dI) vwCl [(h0, .inr (16, [.ref h2, v0, v1, v2, v3, v4, v5, v6, v7, v8, v9, v10, v11, v12, v13, .int 0])), (h2, .inr (10, [.ref h3, .ref h4, .ref h6, .ref h8, .ref h10, .ref h12, .ref h14, v14, v15])), (h3, .inr (11, [.ref h16, .int 0])), (h4, .inr (11, [.ref h5, .int 0])), (h5, .inl (cc0, 4960, .inl f0)), (h6, .inr (11, [.ref h7, .int 0])), (h7, .inl (cc1, 4960, .inl f1)), (h8, .inr (11, [.ref h9, .int 0])), (h9, .inl (cc2, 4960, .inl f2)), (h10, .inr (11, [.ref h11, .int 0])), (h11, .inl (cc3, 4960, .inl f3)), (h12, .inr (11, [.ref h13, .int 0])), (h13, .inl (cc4, 4960, .inl f4)), (h14, .inr (11, [.ref h15, .int 0])), (h15, .inl (cc5, 4960, .inl f5)), (h16, .inl (cc6, 80, .inl f6)), (h1, .inr (17, [v16, v17]))] s.heap := hP
  have hl := lv_entry ([.ref h0, .int x0, .ref h1]) (n := 4) (Nat.le_of_ble_eq_true rfl)
  rw [lg_entry_eq]
  generalize (lg_sl ([.ref h0, .int x0, .ref h1]) ++ List.replicate (4 - (lg_sl ([.ref h0, .int x0, .ref h1])).length) Slot.unset).toArray = ls at hl ⊢
  have hl : lv_has ls 4 [(0, .ref h0), (1, .int x0), (2, .ref h1)] := hl
  refine lv_aload_n hx hb dL_mark_0 rfl (lv_at hl 2 rfl) ?_
  refine lv_aload_n hx hb dL_mark_1 rfl (lv_at hl 0 rfl) ?_
  refine lv_iload_n hx hb dL_mark_2 rfl (lv_at hl 1 rfl) ?_
  have hPc := hP.sub (ws' := [(h0, .inr (16, [.ref h2, v0, v1, v2, v3, v4, v5, v6, v7, v8, v9, v10, v11, v12, v13, .int 0])), (h2, .inr (10, [.ref h3, .ref h4, .ref h6, .ref h8, .ref h10, .ref h12, .ref h14, v14, v15])), (h3, .inr (11, [.ref h16, .int 0])), (h4, .inr (11, [.ref h5, .int 0])), (h5, .inl (cc0, 4960, .inl f0)), (h6, .inr (11, [.ref h7, .int 0])), (h7, .inl (cc1, 4960, .inl f1)), (h8, .inr (11, [.ref h9, .int 0])), (h9, .inl (cc2, 4960, .inl f2)), (h10, .inr (11, [.ref h11, .int 0])), (h11, .inl (cc3, 4960, .inl f3)), (h12, .inr (11, [.ref h13, .int 0])), (h13, .inl (cc4, 4960, .inl f4)), (h14, .inr (11, [.ref h15, .int 0])), (h15, .inl (cc5, 4960, .inl f5)), (h16, .inl (cc6, 80, .inl f6))]) [0, 1, 2, 3, 4, 5, 6, 7, 8, 9, 10, 11, 12, 13, 14, 15] rfl
  have hDc := hD.sub (ws' := [(h0, .inr (16, [.ref h2, v0, v1, v2, v3, v4, v5, v6, v7, v8, v9, v10, v11, v12, v13, .int 0])), (h2, .inr (10, [.ref h3, .ref h4, .ref h6, .ref h8, .ref h10, .ref h12, .ref h14, v14, v15])), (h3, .inr (11, [.ref h16, .int 0])), (h4, .inr (11, [.ref h5, .int 0])), (h5, .inl (cc0, 4960, .inl f0)), (h6, .inr (11, [.ref h7, .int 0])), (h7, .inl (cc1, 4960, .inl f1)), (h8, .inr (11, [.ref h9, .int 0])), (h9, .inl (cc2, 4960, .inl f2)), (h10, .inr (11, [.ref h11, .int 0])), (h11, .inl (cc3, 4960, .inl f3)), (h12, .inr (11, [.ref h13, .int 0])), (h13, .inl (cc4, 4960, .inl f4)), (h14, .inr (11, [.ref h15, .int 0])), (h15, .inl (cc5, 4960, .inl f5)), (h16, .inl (cc6, 80, .inl f6))]) [0, 1, 2, 3, 4, 5, 6, 7, 8, 9, 10, 11, 12, 13, 14, 15] (by decide) rfl
  have hKc := hK.sub (tys' := [(cc0, .int), (cc1, .int), (cc2, .int), (cc3, .int), (cc4, .int), (cc5, .int), (cc6, .int)]) [0, 1, 2, 3, 4, 5, 6] rfl
  have hFc := va_free (wc := [(h0, .inr (16, [.ref h2, v0, v1, v2, v3, v4, v5, v6, v7, v8, v9, v10, v11, v12, v13, .int 0])), (h2, .inr (10, [.ref h3, .ref h4, .ref h6, .ref h8, .ref h10, .ref h12, .ref h14, v14, v15])), (h3, .inr (11, [.ref h16, .int 0])), (h4, .inr (11, [.ref h5, .int 0])), (h5, .inl (cc0, 4960, .inl f0)), (h6, .inr (11, [.ref h7, .int 0])), (h7, .inl (cc1, 4960, .inl f1)), (h8, .inr (11, [.ref h9, .int 0])), (h9, .inl (cc2, 4960, .inl f2)), (h10, .inr (11, [.ref h11, .int 0])), (h11, .inl (cc3, 4960, .inl f3)), (h12, .inr (11, [.ref h13, .int 0])), (h13, .inl (cc4, 4960, .inl f4)), (h14, .inr (11, [.ref h15, .int 0])), (h15, .inl (cc5, 4960, .inl f5)), (h16, .inl (cc6, 80, .inl f6))]) hD hS hA [0, 1, 2, 3, 4, 5, 6, 7, 8, 9, 10, 11, 12, 13, 14, 15] rfl
  refine va_calli (va_runV (As := [.int x0]) (rest := [.ref h1]) ⟨hx, hb, hml, hown, hts⟩ (kX9_mark_2 l dC dI g s.heap.size h0 x0 h2 h3 h4 h5 h6 h7 h8 h9 h10 h11 h12 h13 h14 h15 h16 v0 v1 v2 v3 v4 v5 v6 v7 v8 v9 v10 v11 v12 v13 v14 v15 cc0 f0 cc1 f1 cc2 f2 cc3 f3 cc4 f4 cc5 f5 cc6 f6 ⟨by omega, by omega⟩) (cwV 1 hts gL_mark_X9_mark rfl rfl rfl (by decide +kernel) ⟨Nat.le_of_ble_eq_true rfl, Nat.le_of_ble_eq_true rfl⟩) ⟨fun a U gg mk q => by obtain ⟨q0, q1, qP, qK, qD, qF⟩ := q; exact ⟨q0, q1, qP, va_K.moved (u := U) (U := U.calling gg mk a) (Vm.Alike.refl U.vm) qK, qD, ns_same qF⟩, va_recv hK hP (ci := 16) (q0 := 0) rfl rfl, fun U hU hW => ⟨rfl, by rw [hU], by rw [hU]; exact hPc, va_K.moved hW.alike hKc, hDc.weaken (fun _ _ _ _ => trivial), ns_call hF hS hFc hU hW⟩⟩ rfl rfl hl.1 rfl (lv_room (Nat.le_of_ble_eq_true rfl)) dL_mark_3 ⟨Nat.le_of_ble_eq_true rfl, Nat.le_of_ble_eq_true rfl⟩) hS (fun q _ h => hFc q h) hFc (fun r9 u t H1 locs ht hvm hw hB hz1 hk1 hS => ?_)
  obtain rfl := hw
  obtain ⟨hP1, hK1, hD1⟩ := hB
  rw [ht] at hP1
  have hK1 := va_K.moved hvm.symm hK1
  obtain ⟨hP, hD⟩ := va_join (wr := [(h1, .inr (17, [v16, v17]))]) (w1 := [(h5, .inl (cc0, 4960, .inl (upd (f0) 0 x0))), (h6, .inr (11, [.ref h7, .int 1])), (h7, .inl (cc1, 4960, .inl (upd (f1) 0 0))), (h8, .inr (11, [.ref h9, .int 1])), (h9, .inl (cc2, 4960, .inl (upd (f2) 0 0))), (h10, .inr (11, [.ref h11, .int 1])), (h11, .inl (cc3, 4960, .inl (upd (f3) 0 0))), (h12, .inr (11, [.ref h13, .int 1])), (h13, .inl (cc4, 4960, .inl (upd (f4) 0 1))), (h14, .inr (11, [.ref h15, .int 1])), (h15, .inl (cc5, 4960, .inl (upd (f5) 0 1))), (h4, .inr (11, [.ref h5, .int 1])), (h0, .inr (16, [.ref h2, v0, v1, v2, v3, v4, v5, v6, v7, v8, v9, v10, v11, v12, v13, .int 1])), (h2, .inr (10, [.ref h3, .ref h4, .ref h6, .ref h8, .ref h10, .ref h12, .ref h14, v14, v15])), (h16, .inl (cc6, 80, .inl (upd (f6) 0 0))), (h3, .inr (11, [.ref h16, .int 1]))]) hP hD [0, 1, 2, 3, 4, 5, 6, 7, 8, 9, 10, 11, 12, 13, 14, 15] [16] rfl rfl (by decide) (by decide) hk1 hFc hP1 hD1
  have hK := (hK.sub (tys' := []) [] rfl).app hK1
  generalize H1 = H at hP hS ⊢
  have hP : va_P (dC, dI) vwCl [(h1, .inr (17, [v16, v17])), (h5, .inl (cc0, 4960, .inl (upd (f0) 0 x0))), (h6, .inr (11, [.ref h7, .int 1])), (h7, .inl (cc1, 4960, .inl (upd (f1) 0 0))), (h8, .inr (11, [.ref h9, .int 1])), (h9, .inl (cc2, 4960, .inl (upd (f2) 0 0))), (h10, .inr (11, [.ref h11, .int 1])), (h11, .inl (cc3, 4960, .inl (upd (f3) 0 0))), (h12, .inr (11, [.ref h13, .int 1])), (h13, .inl (cc4, 4960, .inl (upd (f4) 0 1))), (h14, .inr (11, [.ref h15, .int 1])), (h15, .inl (cc5, 4960, .inl (upd (f5) 0 1))), (h4, .inr (11, [.ref h5, .int 1])), (h0, .inr (16, [.ref h2, v0, v1, v2, v3, v4, v5, v6, v7, v8, v9, v10, v11, v12, v13, .int 1])), (h2, .inr (10, [.ref h3, .ref h4, .ref h6, .ref h8, .ref h10, .ref h12, .ref h14, v14, v15])), (h16, .inl (cc6, 80, .inl (upd (f6) 0 0))), (h3, .inr (11, [.ref h16, .int 1]))] H := hP
  have hD : va_D A [(h1, .inr (17, [v16, v17])), (h5, .inl (cc0, 4960, .inl (upd (f0) 0 x0))), (h6, .inr (11, [.ref h7, .int 1])), (h7, .inl (cc1, 4960, .inl (upd (f1) 0 0))), (h8, .inr (11, [.ref h9, .int 1])), (h9, .inl (cc2, 4960, .inl (upd (f2) 0 0))), (h10, .inr (11, [.ref h11, .int 1])), (h11, .inl (cc3, 4960, .inl (upd (f3) 0 0))), (h12, .inr (11, [.ref h13, .int 1])), (h13, .inl (cc4, 4960, .inl (upd (f4) 0 1))), (h14, .inr (11, [.ref h15, .int 1])), (h15, .inl (cc5, 4960, .inl (upd (f5) 0 1))), (h4, .inr (11, [.ref h5, .int 1])), (h0, .inr (16, [.ref h2, v0, v1, v2, v3, v4, v5, v6, v7, v8, v9, v10, v11, v12, v13, .int 1])), (h2, .inr (10, [.ref h3, .ref h4, .ref h6, .ref h8, .ref h10, .ref h12, .ref h14, v14, v15])), (h16, .inl (cc6, 80, .inl (upd (f6) 0 0))), (h3, .inr (11, [.ref h16, .int 1]))] := hD
  have hK : va_K (dC, dI) vwCl [(cc0, .int), (cc1, .int), (cc2, .int), (cc3, .int), (cc4, .int), (cc5, .int), (cc6, .int)] s := hK
  refine W.widen (k := 0) (n := 0) (Nat.le_of_ble_eq_true rfl) (Nat.le_of_ble_eq_true rfl) ?_
  refine lv_i2l (v := 0) hx hb dL_mark_6 (by decide) ?_
  refine va_putN (D := (dC, dI)) (ci := 17) (v := .long 0) (ty := .long) (C := RX10) (T := TX10) (N := 2) hx hb hts (by decide +kernel) tyX10 tyX10_ok nmX10 hown hK hP hD hS 0 rfl rfl 0 (by decide) (va_Nw.use rfl (ns_f7 hF)) (fun _ h9 => h9) rfl (by decide +kernel) rfl rfl (Nat.le_of_ble_eq_true rfl) dL_mark_7 (fun H locs hP hD hS => ?_)
  have hP : va_P (dC, dI) vwCl [(h1, .inr (17, [.long 0, v17])), (h5, .inl (cc0, 4960, .inl (upd (f0) 0 x0))), (h6, .inr (11, [.ref h7, .int 1])), (h7, .inl (cc1, 4960, .inl (upd (f1) 0 0))), (h8, .inr (11, [.ref h9, .int 1])), (h9, .inl (cc2, 4960, .inl (upd (f2) 0 0))), (h10, .inr (11, [.ref h11, .int 1])), (h11, .inl (cc3, 4960, .inl (upd (f3) 0 0))), (h12, .inr (11, [.ref h13, .int 1])), (h13, .inl (cc4, 4960, .inl (upd (f4) 0 1))), (h14, .inr (11, [.ref h15, .int 1])), (h15, .inl (cc5, 4960, .inl (upd (f5) 0 1))), (h4, .inr (11, [.ref h5, .int 1])), (h0, .inr (16, [.ref h2, v0, v1, v2, v3, v4, v5, v6, v7, v8, v9, v10, v11, v12, v13, .int 1])), (h2, .inr (10, [.ref h3, .ref h4, .ref h6, .ref h8, .ref h10, .ref h12, .ref h14, v14, v15])), (h16, .inl (cc6, 80, .inl (upd (f6) 0 0))), (h3, .inr (11, [.ref h16, .int 1]))] H := hP
  have hD : va_D A [(h1, .inr (17, [.long 0, v17])), (h5, .inl (cc0, 4960, .inl (upd (f0) 0 x0))), (h6, .inr (11, [.ref h7, .int 1])), (h7, .inl (cc1, 4960, .inl (upd (f1) 0 0))), (h8, .inr (11, [.ref h9, .int 1])), (h9, .inl (cc2, 4960, .inl (upd (f2) 0 0))), (h10, .inr (11, [.ref h11, .int 1])), (h11, .inl (cc3, 4960, .inl (upd (f3) 0 0))), (h12, .inr (11, [.ref h13, .int 1])), (h13, .inl (cc4, 4960, .inl (upd (f4) 0 1))), (h14, .inr (11, [.ref h15, .int 1])), (h15, .inl (cc5, 4960, .inl (upd (f5) 0 1))), (h4, .inr (11, [.ref h5, .int 1])), (h0, .inr (16, [.ref h2, v0, v1, v2, v3, v4, v5, v6, v7, v8, v9, v10, v11, v12, v13, .int 1])), (h2, .inr (10, [.ref h3, .ref h4, .ref h6, .ref h8, .ref h10, .ref h12, .ref h14, v14, v15])), (h16, .inl (cc6, 80, .inl (upd (f6) 0 0))), (h3, .inr (11, [.ref h16, .int 1]))] := hD
  refine lv_goto (tgt := 19) hx hb dL_mark_10 (by decide) ?_
  refine lv_iconst (v := 0) hx hb dL_mark_19 (by decide) ?_
  have hP9 := hP.sub (ws' := [(h1, .inr (17, [.long 0, v17])), (h5, .inl (cc0, 4960, .inl (upd (f0) 0 x0))), (h6, .inr (11, [.ref h7, .int 1])), (h7, .inl (cc1, 4960, .inl (upd (f1) 0 0))), (h8, .inr (11, [.ref h9, .int 1])), (h9, .inl (cc2, 4960, .inl (upd (f2) 0 0))), (h10, .inr (11, [.ref h11, .int 1])), (h11, .inl (cc3, 4960, .inl (upd (f3) 0 0))), (h12, .inr (11, [.ref h13, .int 1])), (h13, .inl (cc4, 4960, .inl (upd (f4) 0 1))), (h14, .inr (11, [.ref h15, .int 1])), (h15, .inl (cc5, 4960, .inl (upd (f5) 0 1))), (h4, .inr (11, [.ref h5, .int 1])), (h0, .inr (16, [.ref h2, v0, v1, v2, v3, v4, v5, v6, v7, v8, v9, v10, v11, v12, v13, .int 1])), (h2, .inr (10, [.ref h3, .ref h4, .ref h6, .ref h8, .ref h10, .ref h12, .ref h14, v14, v15])), (h16, .inl (cc6, 80, .inl (upd (f6) 0 0))), (h3, .inr (11, [.ref h16, .int 1]))]) [0, 1, 2, 3, 4, 5, 6, 7, 8, 9, 10, 11, 12, 13, 14, 15, 16] rfl
  have hD9 := hD.sub (ws' := [(h1, .inr (17, [.long 0, v17])), (h5, .inl (cc0, 4960, .inl (upd (f0) 0 x0))), (h6, .inr (11, [.ref h7, .int 1])), (h7, .inl (cc1, 4960, .inl (upd (f1) 0 0))), (h8, .inr (11, [.ref h9, .int 1])), (h9, .inl (cc2, 4960, .inl (upd (f2) 0 0))), (h10, .inr (11, [.ref h11, .int 1])), (h11, .inl (cc3, 4960, .inl (upd (f3) 0 0))), (h12, .inr (11, [.ref h13, .int 1])), (h13, .inl (cc4, 4960, .inl (upd (f4) 0 1))), (h14, .inr (11, [.ref h15, .int 1])), (h15, .inl (cc5, 4960, .inl (upd (f5) 0 1))), (h4, .inr (11, [.ref h5, .int 1])), (h0, .inr (16, [.ref h2, v0, v1, v2, v3, v4, v5, v6, v7, v8, v9, v10, v11, v12, v13, .int 1])), (h2, .inr (10, [.ref h3, .ref h4, .ref h6, .ref h8, .ref h10, .ref h12, .ref h14, v14, v15])), (h16, .inl (cc6, 80, .inl (upd (f6) 0 0))), (h3, .inr (11, [.ref h16, .int 1]))]) [0, 1, 2, 3, 4, 5, 6, 7, 8, 9, 10, 11, 12, 13, 14, 15, 16] (by decide) rfl
  have hK9 := hK.sub (tys' := [(cc0, .int), (cc1, .int), (cc2, .int), (cc3, .int), (cc4, .int), (cc5, .int), (cc6, .int)]) [0, 1, 2, 3, 4, 5, 6] rfl
  refine W.widen (k := 0) (n := 0) (Nat.le_of_ble_eq_true rfl) (Nat.le_of_ble_eq_true rfl) ?_
  exact W.iret (v := 0) hx hb hr (fun t ht hW => ⟨⟨_, (), rfl, rfl, by rw [ht]; exact hP9, va_K.moved hW.alike hK9, hD9⟩, hS.F ht⟩) hS.2.2 dL_mark_20
set_option maxHeartbeats 4000000 in
set_option maxRecDepth 100000 in
theorem kX16_isIn_6 (l : Launch) (dC : Nat → ClassId) (dI : Nat → Nat → Nat) (g : Nat → Nat) (sz : Nat) (x0 : Int32) (ex0 : (1 : Int) ≤ x0.toInt ∧ x0.toInt ≤ (4 : Int)) : Met l yX16_isIn wsX16_isIn ({ frames := 0, cells := 0, slots := 0, locals := 0 }) (va_Pc [.int x0, .int 1, .int 4] (fun U => U.heap.size = sz ∧ va_P (dC, dI) vwCl [] U.heap ∧ va_K (dC, dI) vwCl [] U ∧ va_D (fun _ => True) [] ∧ ns_F g (va_A [] sz) U U.heap)) (va_Qi (fun (r : Int32) (_ : Unit) => r = 1) (fun _ t => va_P (dC, dI) vwCl [] t.heap ∧ va_K (dC, dI) vwCl [] t ∧ va_D (va_A [] sz) []) (va_A [] sz)) 0 0 (va_A [] sz) := by
  refine Met.ofW (cc := cX16_isIn) (maxL := 3) (ret := (some .boolean)) (by decide) rfl ?_
  intro p e s m args below meth c s₁ B hml hv
  obtain ⟨rfl, hsz, hP, hK, hD0, hF⟩ := hv
  have hx := B.exec
  have hb := B.bytes
  have hr := B.returns
  have hts := atoms_spec (ws := wsX16_isIn) B.pre
  have hown : s.vm.findClass RX16 = some m.cls := findClass_of_methodNamed B.named
  have hlocks := B.notSynchronized
  subst hsz
  have hD := hD0.self (sz := s.heap.size)
  generalize hAe : va_A [] s.heap.size = A at hD hF ⊢
  have hA : ∀ q : Nat, s.heap.size ≤ q → A q := fun q h => by rw [← hAe]; exact Or.inr h
  have hS : va_S A s.heap s.heap [] := va_S.rf
  have hP : va_P (dC, dI) vwCl [] s.heap := hP
  have hl := lv_entry ([.int x0, .int 1, .int 4]) (n := 3) (Nat.le_of_ble_eq_true rfl)
  rw [lg_entry_eq]
  generalize (lg_sl ([.int x0, .int 1, .int 4]) ++ List.replicate (3 - (lg_sl ([.int x0, .int 1, .int 4])).length) Slot.unset).toArray = ls at hl ⊢
  have hl : lv_has ls 3 [(0, .int x0), (1, .int 1), (2, .int 4)] := hl
  refine lv_iload_n hx hb dX16_isIn_0 rfl (lv_at hl 0 rfl) ?_
  refine lv_iload_n hx hb dX16_isIn_1 rfl (lv_at hl 1 rfl) ?_
  refine lv_icmp_lt (tgt := 14) hx hb dX16_isIn_2 (by decide) (fun c1 => absurd c1 (fun z => absurd (Int32.lt_iff_toInt_lt.mp z : x0.toInt < (1 : Int)) (by omega))) (fun c1 => ?_)
  refine lv_iload_n hx hb dX16_isIn_5 rfl (lv_at hl 0 rfl) ?_
  refine lv_iload_n hx hb dX16_isIn_6 rfl (lv_at hl 2 rfl) ?_
  refine lv_icmp_gt (tgt := 14) hx hb dX16_isIn_7 (by decide) (fun c2 => absurd c2 (fun z => absurd (Int32.lt_iff_toInt_lt.mp z : (4 : Int) < x0.toInt) (by omega))) (fun c2 => ?_)
  refine lv_iconst (v := 1) hx hb dX16_isIn_10 (by decide) ?_
  refine lv_goto (tgt := 15) hx hb dX16_isIn_11 (by decide) ?_
  have hP9 := hP.sub (ws' := []) [] rfl
  have hD9 := hD.sub (ws' := []) [] (by decide) rfl
  have hK9 := hK.sub (tys' := []) [] rfl
  refine W.widen (k := 0) (n := 0) (Nat.le_of_ble_eq_true rfl) (Nat.le_of_ble_eq_true rfl) ?_
  exact W.zret (v := 1) hx hb hr (by decide) (fun t ht hW => ⟨⟨_, (), rfl, rfl, by rw [ht]; exact hP9, va_K.moved hW.alike hK9, hD9⟩, hS.F ht⟩) hS.2.2 dX16_isIn_15
set_option maxHeartbeats 4000000 in
set_option maxRecDepth 100000 in
theorem kX11_init (l : Launch) (dC : Nat → ClassId) (dI : Nat → Nat → Nat) (g : Nat → Nat) (sz : Nat) (h0 : Nat) (x0 : Int32) (v0 : Value) (v1 : Value) (v2 : Value) (v3 : Value) (ex0 : (1 : Int) ≤ x0.toInt ∧ x0.toInt ≤ (4 : Int)) : Met l yX11_init wsX11_init ({ frames := 4, cells := 1, slots := 3, locals := 72 }) (va_Pc [.ref h0, .int x0, .ref (g 34), .int 0] (fun U => U.heap.size = sz ∧ va_P (dC, dI) vwCl [(h0, .inr (18, [v0, v1, v2, v3]))] U.heap ∧ va_K (dC, dI) vwCl [] U ∧ va_D (fun _ => True) [(h0, .inr (18, [v0, v1, v2, v3]))] ∧ ns_F g (va_A [(h0, .inr (18, [v0, v1, v2, v3]))] sz) U U.heap)) (va_Qv (fun _ : Unit => True) (fun _ t => ∃ k0 : Nat, va_P (dC, dI) vwCl [(h0, .inr (18, [.int x0, .ref (g 34), .int 0, .ref k0])), (k0, .inr (6, [.int 0, .ref (g 0), .int 0]))] t.heap ∧ va_K (dC, dI) vwCl [] t ∧ va_D (va_A [(h0, .inr (18, [v0, v1, v2, v3]))] sz) [(h0, .inr (18, [.int x0, .ref (g 34), .int 0, .ref k0])), (k0, .inr (6, [.int 0, .ref (g 0), .int 0]))]) (va_A [(h0, .inr (18, [v0, v1, v2, v3]))] sz)) 1 3 (va_A [(h0, .inr (18, [v0, v1, v2, v3]))] sz) := by
  refine Met.ofW (cc := cX11_init) (maxL := 4) (ret := none) (by decide) rfl ?_
  intro p e s m args below meth c s₁ B hml hv
  obtain ⟨rfl, hsz, hP, hK, hD0, hF⟩ := hv
  have hx := B.exec
  have hb := B.bytes
  have hr := B.returns
  have hts := atoms_spec (ws := wsX11_init) B.pre
  have hown : s.vm.findClass RX11 = some m.cls := findClass_of_methodNamed B.named
  have hlocks := B.notSynchronized
  have hin : meth.name = "<init>" := (name_of_methodNamed B.named B.method).1
  subst hsz
  have hD := hD0.self (sz := s.heap.size)
  generalize hAe : va_A [(h0, .inr (18, [v0, v1, v2, v3]))] s.heap.size = A at hD hF ⊢
  have hA : ∀ q : Nat, s.heap.size ≤ q → A q := fun q h => by rw [← hAe]; exact Or.inr h
  have hS : va_S A s.heap s.heap [] := va_S.rf
  have hP : va_P (dC, dI) vwCl [(h0, .inr (18, [v0, v1, v2, v3]))] s.heap := hP
  have hl := lv_entry ([.ref h0, .int x0, .ref (g 34), .int 0]) (n := 4) (Nat.le_of_ble_eq_true rfl)
  rw [lg_entry_eq]
  generalize (lg_sl ([.ref h0, .int x0, .ref (g 34), .int 0]) ++ List.replicate (4 - (lg_sl ([.ref h0, .int x0, .ref (g 34), .int 0])).length) Slot.unset).toArray = ls at hl ⊢
  have hl : lv_has ls 4 [(0, .ref h0), (1, .int x0), (2, .ref (g 34)), (3, .int 0)] := hl
  refine lv_aload_n hx hb dX11_init_0 rfl (lv_at hl 0 rfl) ?_
  refine W.objInit hx hb hown (hts (.methodLink RX11 3 objectInit) (by decide +kernel)) (hts (.instanceMethod objectInit) (by decide +kernel)) (hts (.code objectInit ⟨#[0xb1]⟩ 1 none) (by decide +kernel)) rfl (by rw [hml]; exact hl.1) rfl dX11_init_1 (Nat.le_of_ble_eq_true rfl) (Nat.le_of_ble_eq_true rfl) ?_
  refine W.eq (g2 := F0 m 4 ls []) rfl ?_
  refine lv_aload_n hx hb dX11_init_4 rfl (lv_at hl 0 rfl) ?_
  refine va_new (ci := 6) (fs := [.int 0, .null, .int 0]) (C := RJx4a65c) (T := TJx4a65c) (N := 3) hx hb hts (by decide +kernel) tyJx4a65c tyJx4a65c_ok hown (hts (.classLink RX11 9 RJx4a65c) (by decide +kernel)) (hts (.instantiable RJx4a65c 3) (by decide +kernel)) (hts (.initialized RJx4a65c) (by decide +kernel)) hK hP hD hS hA rfl (fun j hj => by rcases (show j = 0 ∨ j = 1 ∨ j = 2 by omega) with rfl | rfl | rfl <;> rfl) (Nat.le_of_ble_eq_true rfl) (Nat.le_of_ble_eq_true rfl) dX11_init_5 (fun q1 H hP hD hS => ?_)
  have hP : va_P (dC, dI) vwCl [(h0, .inr (18, [v0, v1, v2, v3])), (q1, .inr (6, [.int 0, .null, .int 0]))] H := hP
  have hD : va_D A [(h0, .inr (18, [v0, v1, v2, v3])), (q1, .inr (6, [.int 0, .null, .int 0]))] := hD
  refine W.widen (k := 1) (n := 3) (Nat.le_of_ble_eq_true rfl) (Nat.le_of_ble_eq_true rfl) ?_
  refine lv_dup hx hb dX11_init_8 rfl ?_
  have hPc := hP.sub (ws' := [(q1, .inr (6, [.int 0, .null, .int 0]))]) [1] rfl
  have hDc := hD.sub (ws' := [(q1, .inr (6, [.int 0, .null, .int 0]))]) [1] (by decide) rfl
  have hKc := hK.sub (tys' := []) [] rfl
  have hFc := va_free (wc := [(q1, .inr (6, [.int 0, .null, .int 0]))]) hD hS hA [1] rfl
  refine va_callv (va_runI (As := []) (rest := [.ref q1, .ref h0]) ⟨hx, hb, hml, hown, hts⟩ (kJx4a65c_init_da8c8 l dC dI g H.size q1 (.int 0) .null (.int 0) ) (cwI 0 hts gX11_init_Jx4a65c_init_da8c8 rfl rfl rfl (hts (.initialized RJx4a65c) (by decide +kernel)) (hts (.methodLink RX11 11 yJx4a65c_init_da8c8) (by decide +kernel)) (hts (.instanceMethod yJx4a65c_init_da8c8) (by decide +kernel)) rfl (by decide +kernel) ⟨Nat.le_of_ble_eq_true rfl, Nat.le_of_ble_eq_true rfl⟩) ⟨fun a U gg mk q => by obtain ⟨q0, q1, qP, qK, qD, qF⟩ := q; exact ⟨q0, q1, qP, va_K.moved (u := U) (U := U.calling gg mk a) (Vm.Alike.refl U.vm) qK, qD, ns_same qF⟩, fun U hU hW => ⟨rfl, by rw [hU], by rw [hU]; exact hPc, va_K.moved hW.alike hKc, hDc.weaken (fun _ _ _ _ => trivial), ns_call hF hS hFc hU hW⟩⟩ rfl rfl hl.1 rfl (lv_room (Nat.le_of_ble_eq_true rfl)) dX11_init_9 ⟨Nat.le_of_ble_eq_true rfl, Nat.le_of_ble_eq_true rfl⟩) hS (fun q _ h => hFc q h) hFc (fun u t H1 locs ht hvm hw hB hz1 hk1 hS => ?_)
  obtain ⟨hP1, hK1, hD1⟩ := hB
  rw [ht] at hP1
  have hK1 := va_K.moved hvm.symm hK1
  obtain ⟨hP, hD⟩ := va_join (wr := [(h0, .inr (18, [v0, v1, v2, v3]))]) (w1 := [(q1, .inr (6, [.int 0, .ref (g 0), .int 0]))]) hP hD [1] [0] rfl rfl (by decide) (by decide) hk1 hFc hP1 hD1
  have hK := (hK.sub (tys' := []) [] rfl).app hK1
  generalize H1 = H at hP hS ⊢
  have hP : va_P (dC, dI) vwCl [(h0, .inr (18, [v0, v1, v2, v3])), (q1, .inr (6, [.int 0, .ref (g 0), .int 0]))] H := hP
  have hD : va_D A [(h0, .inr (18, [v0, v1, v2, v3])), (q1, .inr (6, [.int 0, .ref (g 0), .int 0]))] := hD
  have hK : va_K (dC, dI) vwCl [] s := hK
  refine W.widen (k := 1) (n := 3) (Nat.le_of_ble_eq_true rfl) (Nat.le_of_ble_eq_true rfl) ?_
  refine va_putF (D := (dC, dI)) (ci := 18) (v := .ref q1) (ty := .object "java/util/ArrayList") (C := RX11) (T := TX11) (N := 4) hx hb hts (by decide +kernel) tyX11 tyX11_ok nmX11 hown hK hP hD hS 0 rfl rfl 3 (by decide) (hts (.fieldLink RX11 12 "NestprintModel$Node" "own" "Ljava/util/ArrayList;") (by decide +kernel)) (fun _ h9 => h9) rfl hin rfl (by decide +kernel) rfl rfl (Nat.le_of_ble_eq_true rfl) dX11_init_12 (fun H locs hP hD hS => ?_)
  have hP : va_P (dC, dI) vwCl [(h0, .inr (18, [v0, v1, v2, .ref q1])), (q1, .inr (6, [.int 0, .ref (g 0), .int 0]))] H := hP
  have hD : va_D A [(h0, .inr (18, [v0, v1, v2, .ref q1])), (q1, .inr (6, [.int 0, .ref (g 0), .int 0]))] := hD
  refine lv_aload_n hx hb dX11_init_15 rfl (lv_at hl 0 rfl) ?_
  refine lv_iload_n hx hb dX11_init_16 rfl (lv_at hl 1 rfl) ?_
  refine va_putF (D := (dC, dI)) (ci := 18) (v := .int x0) (ty := .int) (C := RX11) (T := TX11) (N := 4) hx hb hts (by decide +kernel) tyX11 tyX11_ok nmX11 hown hK hP hD hS 0 rfl rfl 0 (by decide) (hts (.fieldLink RX11 18 "NestprintModel$Node" "kind" "I") (by decide +kernel)) (fun _ h9 => h9) rfl hin rfl (by decide +kernel) rfl rfl (Nat.le_of_ble_eq_true rfl) dX11_init_17 (fun H locs hP hD hS => ?_)
  have hP : va_P (dC, dI) vwCl [(h0, .inr (18, [.int x0, v1, v2, .ref q1])), (q1, .inr (6, [.int 0, .ref (g 0), .int 0]))] H := hP
  have hD : va_D A [(h0, .inr (18, [.int x0, v1, v2, .ref q1])), (q1, .inr (6, [.int 0, .ref (g 0), .int 0]))] := hD
  refine lv_aload_n hx hb dX11_init_20 rfl (lv_at hl 0 rfl) ?_
  refine lv_aload_n hx hb dX11_init_21 rfl (lv_at hl 2 rfl) ?_
  refine va_putF (D := (dC, dI)) (ci := 18) (v := .ref (g 34)) (ty := .object "java/lang/String") (C := RX11) (T := TX11) (N := 4) hx hb hts (by decide +kernel) tyX11 tyX11_ok nmX11 hown hK hP hD hS 0 rfl rfl 1 (by decide) (hts (.fieldLink RX11 22 "NestprintModel$Node" "text" "Ljava/lang/String;") (by decide +kernel)) (fun _ h9 => h9) rfl hin rfl (by decide +kernel) rfl rfl (Nat.le_of_ble_eq_true rfl) dX11_init_22 (fun H locs hP hD hS => ?_)
  have hP : va_P (dC, dI) vwCl [(h0, .inr (18, [.int x0, .ref (g 34), v2, .ref q1])), (q1, .inr (6, [.int 0, .ref (g 0), .int 0]))] H := hP
  have hD : va_D A [(h0, .inr (18, [.int x0, .ref (g 34), v2, .ref q1])), (q1, .inr (6, [.int 0, .ref (g 0), .int 0]))] := hD
  refine lv_aload_n hx hb dX11_init_25 rfl (lv_at hl 0 rfl) ?_
  refine lv_iload_n hx hb dX11_init_26 rfl (lv_at hl 3 rfl) ?_
  refine va_putF (D := (dC, dI)) (ci := 18) (v := .int 0) (ty := .int) (C := RX11) (T := TX11) (N := 4) hx hb hts (by decide +kernel) tyX11 tyX11_ok nmX11 hown hK hP hD hS 0 rfl rfl 2 (by decide) (hts (.fieldLink RX11 26 "NestprintModel$Node" "by" "I") (by decide +kernel)) (fun _ h9 => h9) rfl hin rfl (by decide +kernel) rfl rfl (Nat.le_of_ble_eq_true rfl) dX11_init_27 (fun H locs hP hD hS => ?_)
  have hP : va_P (dC, dI) vwCl [(h0, .inr (18, [.int x0, .ref (g 34), .int 0, .ref q1])), (q1, .inr (6, [.int 0, .ref (g 0), .int 0]))] H := hP
  have hD : va_D A [(h0, .inr (18, [.int x0, .ref (g 34), .int 0, .ref q1])), (q1, .inr (6, [.int 0, .ref (g 0), .int 0]))] := hD
  have hP9 := hP.sub (ws' := [(h0, .inr (18, [.int x0, .ref (g 34), .int 0, .ref q1])), (q1, .inr (6, [.int 0, .ref (g 0), .int 0]))]) [0, 1] rfl
  have hD9 := hD.sub (ws' := [(h0, .inr (18, [.int x0, .ref (g 34), .int 0, .ref q1])), (q1, .inr (6, [.int 0, .ref (g 0), .int 0]))]) [0, 1] (by decide) rfl
  have hK9 := hK.sub (tys' := []) [] rfl
  refine W.widen (k := 1) (n := 3) (Nat.le_of_ble_eq_true rfl) (Nat.le_of_ble_eq_true rfl) ?_
  exact W.vret hx hb hr (fun t ht hW => ⟨⟨(), rfl, trivial, q1, by rw [ht]; exact hP9, va_K.moved hW.alike hK9, hD9⟩, hS.F ht⟩) hS.2.2 dX11_init_30
set_option maxHeartbeats 4000000 in
set_option maxRecDepth 100000 in
theorem kJx4a65c_grow_92f84 (l : Launch) (dC : Nat → ClassId) (dI : Nat → Nat → Nat) (g : Nat → Nat) (sz : Nat) (h0 : Nat) (v0 : Value) (v1 : Value) : Met l yJx4a65c_grow_92f84 wsJx4a65c_grow_92f84 ({ frames := 1, cells := 1, slots := 10, locals := 14 }) (va_Pc [.ref h0, .int 1] (fun U => U.heap.size = sz ∧ va_P (dC, dI) vwCl [(h0, .inr (6, [v0, .ref (g 0), v1]))] U.heap ∧ va_K (dC, dI) vwCl [] U ∧ va_D (fun _ => True) [(h0, .inr (6, [v0, .ref (g 0), v1]))] ∧ ns_F g (va_A [(h0, .inr (6, [v0, .ref (g 0), v1]))] sz) U U.heap)) (va_Qr (fun _ : Unit => True) (fun _ r t => ∃ k0 : Nat, ∃ kc1 : ClassId, r = k0 ∧ va_P (dC, dI) vwCl [(h0, .inr (6, [v0, .ref k0, v1])), (k0, .inl (kc1, 10, .inr (.inr (.inr (.inr (fun _ => none))))))] t.heap ∧ va_K (dC, dI) vwCl [(kc1, .object "java/lang/Object")] t ∧ va_D (va_A [(h0, .inr (6, [v0, .ref (g 0), v1]))] sz) [(h0, .inr (6, [v0, .ref k0, v1])), (k0, .inl (kc1, 10, .inr (.inr (.inr (.inr (fun _ => none))))))]) (va_A [(h0, .inr (6, [v0, .ref (g 0), v1]))] sz)) 1 10 (va_A [(h0, .inr (6, [v0, .ref (g 0), v1]))] sz) := by
  refine Met.ofW (cc := cJx4a65c_grow_92f84) (maxL := 4) (ret := (some (.array (.object "java/lang/Object")))) (by decide) rfl ?_
  intro p e s m args below meth c s₁ B hml hv
  obtain ⟨rfl, hsz, hP, hK, hD0, hF⟩ := hv
  have hx := B.exec
  have hb := B.bytes
  have hr := B.returns
  have hts := atoms_spec (ws := wsJx4a65c_grow_92f84) B.pre
  have hown : s.vm.findClass RJx4a65c = some m.cls := findClass_of_methodNamed B.named
  have hlocks := B.notSynchronized
  subst hsz
  have hD := hD0.self (sz := s.heap.size)
  generalize hAe : va_A [(h0, .inr (6, [v0, .ref (g 0), v1]))] s.heap.size = A at hD hF ⊢
  have hA : ∀ q : Nat, s.heap.size ≤ q → A q := fun q h => by rw [← hAe]; exact Or.inr h
  have hS : va_S A s.heap s.heap [] := va_S.rf
  have hP : va_P (dC, dI) vwCl [(h0, .inr (6, [v0, .ref (g 0), v1]))] s.heap := hP
  have hl := lv_entry ([.ref h0, .int 1]) (n := 4) (Nat.le_of_ble_eq_true rfl)
  rw [lg_entry_eq]
  generalize (lg_sl ([.ref h0, .int 1]) ++ List.replicate (4 - (lg_sl ([.ref h0, .int 1])).length) Slot.unset).toArray = ls at hl ⊢
  have hl : lv_has ls 4 [(0, .ref h0), (1, .int 1)] := hl
  refine lv_aload_n hx hb dJx4a65c_grow_92f84_0 rfl (lv_at hl 0 rfl) ?_
  refine va_get (D := (dC, dI)) (ci := 6) (v := .ref (g 0)) (C := RJx4a65c) (T := TJx4a65c) (N := 3) hx hb hts (by decide +kernel) hown hK hP 0 rfl rfl 1 (by decide) (hts (.fieldLink RJx4a65c 9 "java/util/ArrayList" "elementData" "[Ljava/lang/Object;") (by decide +kernel)) (fun _ h9 => h9) rfl dJx4a65c_grow_92f84_1 ?_
  refine va_tlen (v := 0) hx hb (ns_f19 hF) hS (by decide) dJx4a65c_grow_92f84_4 ?_
  refine lv_istore_n (lv' := [(2, .int 0), (0, .ref h0), (1, .int 1)]) hx hb dJx4a65c_grow_92f84_5 rfl hl (by decide) rfl (fun ls hl => ?_)
  refine lv_iload_n hx hb dJx4a65c_grow_92f84_6 rfl (lv_at hl 0 rfl) ?_
  refine lv_if_gt (tgt := 20) hx hb dJx4a65c_grow_92f84_7 (by decide) (fun c1 => absurd c1 (by decide)) (fun c1 => ?_)
  refine lv_aload_n hx hb dJx4a65c_grow_92f84_10 rfl (lv_at hl 1 rfl) ?_
  refine va_get (D := (dC, dI)) (ci := 6) (v := .ref (g 0)) (C := RJx4a65c) (T := TJx4a65c) (N := 3) hx hb hts (by decide +kernel) hown hK hP 0 rfl rfl 1 (by decide) (hts (.fieldLink RJx4a65c 9 "java/util/ArrayList" "elementData" "[Ljava/lang/Object;") (by decide +kernel)) (fun _ h9 => h9) rfl dJx4a65c_grow_92f84_11 ?_
  refine va_gets hx hb (ns_f16 hF) hS hown (hts (.fieldLink RJx4a65c 39 "java/util/ArrayList" "DEFAULTCAPACITY_EMPTY_ELEMENTDATA" "[Ljava/lang/Object;") (by decide +kernel)) (fun _ h9 => h9) dJx4a65c_grow_92f84_14 ?_
  refine lv_acmp_eq (rx := (some (g 0))) (ry := (some (g 0))) (tgt := 45) hx hb dJx4a65c_grow_92f84_17 (by decide) (fun c2 => ?_) (fun c2 => absurd rfl c2)
  refine lv_aload_n hx hb dJx4a65c_grow_92f84_45 rfl (lv_at hl 1 rfl) ?_
  refine lv_bipush (v := 10) hx hb dJx4a65c_grow_92f84_46 (by decide) ?_
  refine lv_iload_n hx hb dJx4a65c_grow_92f84_48 rfl (lv_at hl 2 rfl) ?_
  refine va_mmax hx hb (by rw [hml]; exact hl.1.symm) hown (hts (.methodLink RJx4a65c 79 Lib.Math.max.name) (by decide +kernel)) (hts (.static Lib.Math.max.name) (by decide +kernel)) (hts (.initialized "java/lang/Math") (by decide +kernel)) (hts (.code Lib.Math.max.name Lib.Math.max.code 2 (some .int)) (by decide +kernel)) (Nat.le_of_ble_eq_true rfl) (Nat.le_of_ble_eq_true rfl) (Nat.le_of_ble_eq_true rfl) (Nat.le_of_ble_eq_true rfl) dJx4a65c_grow_92f84_49 ?_
  refine lv_topi (fun y3 ey3 => ?_)
  obtain rfl : y3 = 10 := ey3.trans (by decide)
  refine va_newq (N' := 10) hx hb hown (hts (.classLink RJx4a65c 7 "java/lang/Object") (by decide +kernel)) (ns_f50 hF) hK hP hD hS hA (by decide) (by decide) (Nat.le_of_ble_eq_true rfl) (Nat.le_of_ble_eq_true rfl) (Nat.le_of_ble_eq_true rfl) dJx4a65c_grow_92f84_52 (fun q4 cyq4 H hK hP hD hS => ?_)
  have hP : va_P (dC, dI) vwCl [(h0, .inr (6, [v0, .ref (g 0), v1])), (q4, .inl (cyq4, 10, .inr (.inr (.inr (.inr (fun _ => none))))))] H := hP
  have hD : va_D A [(h0, .inr (6, [v0, .ref (g 0), v1])), (q4, .inl (cyq4, 10, .inr (.inr (.inr (.inr (fun _ => none))))))] := hD
  have hK : va_K (dC, dI) vwCl [(cyq4, .object "java/lang/Object")] s := hK
  refine W.widen (k := 1) (n := 10) (Nat.le_of_ble_eq_true rfl) (Nat.le_of_ble_eq_true rfl) ?_
  refine lv_dup_x1 hx hb dJx4a65c_grow_92f84_55 rfl rfl ?_
  refine va_put (D := (dC, dI)) (ci := 6) (v := .ref q4) (ty := .array (.object "java/lang/Object")) (C := RJx4a65c) (T := TJx4a65c) (N := 3) hx hb hts (by decide +kernel) tyJx4a65c tyJx4a65c_ok nmJx4a65c hown hK hP hD hS 0 rfl rfl 1 (by decide) (hts (.fieldLink RJx4a65c 9 "java/util/ArrayList" "elementData" "[Ljava/lang/Object;") (by decide +kernel)) (fun _ h9 => h9) rfl (by decide +kernel) rfl rfl (Nat.le_of_ble_eq_true rfl) dJx4a65c_grow_92f84_56 (fun H locs hP hD hS => ?_)
  have hP : va_P (dC, dI) vwCl [(h0, .inr (6, [v0, .ref q4, v1])), (q4, .inl (cyq4, 10, .inr (.inr (.inr (.inr (fun _ => none))))))] H := hP
  have hD : va_D A [(h0, .inr (6, [v0, .ref q4, v1])), (q4, .inl (cyq4, 10, .inr (.inr (.inr (.inr (fun _ => none))))))] := hD
  have hP9 := hP.sub (ws' := [(h0, .inr (6, [v0, .ref q4, v1])), (q4, .inl (cyq4, 10, .inr (.inr (.inr (.inr (fun _ => none))))))]) [0, 1] rfl
  have hD9 := hD.sub (ws' := [(h0, .inr (6, [v0, .ref q4, v1])), (q4, .inl (cyq4, 10, .inr (.inr (.inr (.inr (fun _ => none))))))]) [0, 1] (by decide) rfl
  have hK9 := hK.sub (tys' := [(cyq4, .object "java/lang/Object")]) [0] rfl
  refine W.widen (k := 1) (n := 10) (Nat.le_of_ble_eq_true rfl) (Nat.le_of_ble_eq_true rfl) ?_
  exact W.aret (v := .ref q4) hx hb hr (by first | exact Or.inl ⟨_, rfl⟩ | exact Or.inr ⟨_, rfl⟩) (Or.inr ⟨_, rfl⟩) (fun t ht hW => ⟨⟨(), _, rfl, trivial, q4, cyq4, rfl, by rw [ht]; exact hP9, va_K.moved hW.alike hK9, hD9⟩, hS.F ht⟩) hS.2.2 dJx4a65c_grow_92f84_59
set_option maxHeartbeats 4000000 in
set_option maxRecDepth 100000 in
theorem kJx4a65c_grow_d5877 (l : Launch) (dC : Nat → ClassId) (dI : Nat → Nat → Nat) (g : Nat → Nat) (sz : Nat) (h0 : Nat) (v0 : Value) : Met l yJx4a65c_grow_d5877 wsJx4a65c_grow_d5877 ({ frames := 2, cells := 1, slots := 10, locals := 37 }) (va_Pc [.ref h0] (fun U => U.heap.size = sz ∧ va_P (dC, dI) vwCl [(h0, .inr (6, [v0, .ref (g 0), .int 0]))] U.heap ∧ va_K (dC, dI) vwCl [] U ∧ va_D (fun _ => True) [(h0, .inr (6, [v0, .ref (g 0), .int 0]))] ∧ ns_F g (va_A [(h0, .inr (6, [v0, .ref (g 0), .int 0]))] sz) U U.heap)) (va_Qr (fun _ : Unit => True) (fun _ r t => ∃ k0 : Nat, ∃ kc1 : ClassId, r = k0 ∧ va_P (dC, dI) vwCl [(h0, .inr (6, [v0, .ref k0, .int 0])), (k0, .inl (kc1, 10, .inr (.inr (.inr (.inr (fun _ => none))))))] t.heap ∧ va_K (dC, dI) vwCl [(kc1, .object "java/lang/Object")] t ∧ va_D (va_A [(h0, .inr (6, [v0, .ref (g 0), .int 0]))] sz) [(h0, .inr (6, [v0, .ref k0, .int 0])), (k0, .inl (kc1, 10, .inr (.inr (.inr (.inr (fun _ => none))))))]) (va_A [(h0, .inr (6, [v0, .ref (g 0), .int 0]))] sz)) 1 10 (va_A [(h0, .inr (6, [v0, .ref (g 0), .int 0]))] sz) := by
  refine Met.ofW (cc := cJx4a65c_grow_d5877) (maxL := 1) (ret := (some (.array (.object "java/lang/Object")))) (by decide) rfl ?_
  intro p e s m args below meth c s₁ B hml hv
  obtain ⟨rfl, hsz, hP, hK, hD0, hF⟩ := hv
  have hx := B.exec
  have hb := B.bytes
  have hr := B.returns
  have hts := atoms_spec (ws := wsJx4a65c_grow_d5877) B.pre
  have hown : s.vm.findClass RJx4a65c = some m.cls := findClass_of_methodNamed B.named
  have hlocks := B.notSynchronized
  subst hsz
  have hD := hD0.self (sz := s.heap.size)
  generalize hAe : va_A [(h0, .inr (6, [v0, .ref (g 0), .int 0]))] s.heap.size = A at hD hF ⊢
  have hA : ∀ q : Nat, s.heap.size ≤ q → A q := fun q h => by rw [← hAe]; exact Or.inr h
  have hS : va_S A s.heap s.heap [] := va_S.rf
  have hP : va_P (dC, dI) vwCl [(h0, .inr (6, [v0, .ref (g 0), .int 0]))] s.heap := hP
  have hl := lv_entry ([.ref h0]) (n := 1) (Nat.le_of_ble_eq_true rfl)
  rw [lg_entry_eq]
  generalize (lg_sl ([.ref h0]) ++ List.replicate (1 - (lg_sl ([.ref h0])).length) Slot.unset).toArray = ls at hl ⊢
  have hl : lv_has ls 1 [(0, .ref h0)] := hl
  refine lv_aload_n hx hb dJx4a65c_grow_d5877_0 rfl (lv_at hl 0 rfl) ?_
  refine lv_aload_n hx hb dJx4a65c_grow_d5877_1 rfl (lv_at hl 0 rfl) ?_
  refine va_get (D := (dC, dI)) (ci := 6) (v := .int 0) (C := RJx4a65c) (T := TJx4a65c) (N := 3) hx hb hts (by decide +kernel) hown hK hP 0 rfl rfl 2 (by decide) (hts (.fieldLink RJx4a65c 48 "java/util/ArrayList" "size" "I") (by decide +kernel)) (fun _ h9 => h9) rfl dJx4a65c_grow_d5877_2 ?_
  refine lv_iconst (v := 1) hx hb dJx4a65c_grow_d5877_5 (by decide) ?_
  refine lv_iadd hx hb dJx4a65c_grow_d5877_6 ?_
  refine lv_topi (fun y1 ey1 => ?_)
  obtain rfl : y1 = 1 := ey1.trans (by decide)
  have hPc := hP.sub (ws' := [(h0, .inr (6, [v0, .ref (g 0), .int 0]))]) [0] rfl
  have hDc := hD.sub (ws' := [(h0, .inr (6, [v0, .ref (g 0), .int 0]))]) [0] (by decide) rfl
  have hKc := hK.sub (tys' := []) [] rfl
  have hFc := va_free (wc := [(h0, .inr (6, [v0, .ref (g 0), .int 0]))]) hD hS hA [0] rfl
  refine va_callr (va_runV (As := [.int 1]) (rest := []) ⟨hx, hb, hml, hown, hts⟩ (kJx4a65c_grow_92f84 l dC dI g s.heap.size h0 v0 (.int 0) ) (cwV 1 hts gJx4a65c_grow_d5877_Jx4a65c_grow_92f84 rfl rfl rfl (by decide +kernel) ⟨Nat.le_of_ble_eq_true rfl, Nat.le_of_ble_eq_true rfl⟩) ⟨fun a U gg mk q => by obtain ⟨q0, q1, qP, qK, qD, qF⟩ := q; exact ⟨q0, q1, qP, va_K.moved (u := U) (U := U.calling gg mk a) (Vm.Alike.refl U.vm) qK, qD, ns_same qF⟩, va_recv hK hP (ci := 6) (q0 := 0) rfl rfl, fun U hU hW => ⟨rfl, by rw [hU], by rw [hU]; exact hPc, va_K.moved hW.alike hKc, hDc.weaken (fun _ _ _ _ => trivial), ns_call hF hS hFc hU hW⟩⟩ rfl rfl hl.1 rfl (lv_room (Nat.le_of_ble_eq_true rfl)) dJx4a65c_grow_d5877_7 ⟨Nat.le_of_ble_eq_true rfl, Nat.le_of_ble_eq_true rfl⟩) hS (fun q _ h => hFc q h) hFc (fun u r9 t H1 locs ht hvm hw hB hz1 hk1 hS => ?_)
  obtain ⟨q2, cy3, rfl, hP1, hK1, hD1⟩ := hB
  rw [ht] at hP1
  have hK1 := va_K.moved hvm.symm hK1
  obtain ⟨hP, hD⟩ := va_join (wr := []) (w1 := [(h0, .inr (6, [v0, .ref q2, .int 0])), (q2, .inl (cy3, 10, .inr (.inr (.inr (.inr (fun _ => none))))))]) hP hD [0] [] rfl rfl (by decide) (by decide) hk1 hFc hP1 hD1
  have hK := (hK.sub (tys' := []) [] rfl).app hK1
  generalize H1 = H at hP hS ⊢
  have hP : va_P (dC, dI) vwCl [(h0, .inr (6, [v0, .ref q2, .int 0])), (q2, .inl (cy3, 10, .inr (.inr (.inr (.inr (fun _ => none))))))] H := hP
  have hD : va_D A [(h0, .inr (6, [v0, .ref q2, .int 0])), (q2, .inl (cy3, 10, .inr (.inr (.inr (.inr (fun _ => none))))))] := hD
  have hK : va_K (dC, dI) vwCl [(cy3, .object "java/lang/Object")] s := hK
  refine W.widen (k := 1) (n := 10) (Nat.le_of_ble_eq_true rfl) (Nat.le_of_ble_eq_true rfl) ?_
  have hP9 := hP.sub (ws' := [(h0, .inr (6, [v0, .ref q2, .int 0])), (q2, .inl (cy3, 10, .inr (.inr (.inr (.inr (fun _ => none))))))]) [0, 1] rfl
  have hD9 := hD.sub (ws' := [(h0, .inr (6, [v0, .ref q2, .int 0])), (q2, .inl (cy3, 10, .inr (.inr (.inr (.inr (fun _ => none))))))]) [0, 1] (by decide) rfl
  have hK9 := hK.sub (tys' := [(cy3, .object "java/lang/Object")]) [0] rfl
  refine W.widen (k := 1) (n := 10) (Nat.le_of_ble_eq_true rfl) (Nat.le_of_ble_eq_true rfl) ?_
  exact W.aret (v := .ref q2) hx hb hr (by first | exact Or.inl ⟨_, rfl⟩ | exact Or.inr ⟨_, rfl⟩) (Or.inr ⟨_, rfl⟩) (fun t ht hW => ⟨⟨(), _, rfl, trivial, q2, cy3, rfl, by rw [ht]; exact hP9, va_K.moved hW.alike hK9, hD9⟩, hS.F ht⟩) hS.2.2 dJx4a65c_grow_d5877_10
set_option maxHeartbeats 4000000 in
set_option maxRecDepth 100000 in
theorem kJx4a65c_add_72be8 (l : Launch) (dC : Nat → ClassId) (dI : Nat → Nat → Nat) (g : Nat → Nat) (sz : Nat) (h0 : Nat) (h1 : Nat) (v0 : Value) (v1 : Value) (v2 : Value) (v3 : Value) (v4 : Value) : Met l yJx4a65c_add_72be8 wsJx4a65c_add_72be8 ({ frames := 3, cells := 1, slots := 10, locals := 57 }) (va_Pc [.ref h0, .ref h1, .ref (g 0), .int 0] (fun U => U.heap.size = sz ∧ va_P (dC, dI) vwCl [(h0, .inr (6, [v0, .ref (g 0), .int 0])), (h1, .inr (18, [v1, v2, v3, v4]))] U.heap ∧ va_K (dC, dI) vwCl [] U ∧ va_D (fun _ => True) [(h0, .inr (6, [v0, .ref (g 0), .int 0])), (h1, .inr (18, [v1, v2, v3, v4]))] ∧ ns_F g (va_A [(h0, .inr (6, [v0, .ref (g 0), .int 0])), (h1, .inr (18, [v1, v2, v3, v4]))] sz) U U.heap)) (va_Qv (fun _ : Unit => True) (fun _ t => ∃ k0 : Nat, ∃ kc1 : ClassId, va_P (dC, dI) vwCl [(h1, .inr (18, [v1, v2, v3, v4])), (h0, .inr (6, [v0, .ref k0, .int 1])), (k0, .inl (kc1, 10, .inr (.inr (.inr (.inr (va_up (fun _ => none) 0 (some h1)))))))] t.heap ∧ va_K (dC, dI) vwCl [(kc1, .object "java/lang/Object")] t ∧ va_D (va_A [(h0, .inr (6, [v0, .ref (g 0), .int 0])), (h1, .inr (18, [v1, v2, v3, v4]))] sz) [(h1, .inr (18, [v1, v2, v3, v4])), (h0, .inr (6, [v0, .ref k0, .int 1])), (k0, .inl (kc1, 10, .inr (.inr (.inr (.inr (va_up (fun _ => none) 0 (some h1)))))))]) (va_A [(h0, .inr (6, [v0, .ref (g 0), .int 0])), (h1, .inr (18, [v1, v2, v3, v4]))] sz)) 1 10 (va_A [(h0, .inr (6, [v0, .ref (g 0), .int 0])), (h1, .inr (18, [v1, v2, v3, v4]))] sz) := by
  refine Met.ofW (cc := cJx4a65c_add_72be8) (maxL := 4) (ret := none) (by decide) rfl ?_
  intro p e s m args below meth c s₁ B hml hv
  obtain ⟨rfl, hsz, hP, hK, hD0, hF⟩ := hv
  have hx := B.exec
  have hb := B.bytes
  have hr := B.returns
  have hts := atoms_spec (ws := wsJx4a65c_add_72be8) B.pre
  have hown : s.vm.findClass RJx4a65c = some m.cls := findClass_of_methodNamed B.named
  have hlocks := B.notSynchronized
  subst hsz
  have hD := hD0.self (sz := s.heap.size)
  generalize hAe : va_A [(h0, .inr (6, [v0, .ref (g 0), .int 0])), (h1, .inr (18, [v1, v2, v3, v4]))] s.heap.size = A at hD hF ⊢
  have hA : ∀ q : Nat, s.heap.size ≤ q → A q := fun q h => by rw [← hAe]; exact Or.inr h
  have hS : va_S A s.heap s.heap [] := va_S.rf
  have hP : va_P (dC, dI) vwCl [(h0, .inr (6, [v0, .ref (g 0), .int 0])), (h1, .inr (18, [v1, v2, v3, v4]))] s.heap := hP
  have hl := lv_entry ([.ref h0, .ref h1, .ref (g 0), .int 0]) (n := 4) (Nat.le_of_ble_eq_true rfl)
  rw [lg_entry_eq]
  generalize (lg_sl ([.ref h0, .ref h1, .ref (g 0), .int 0]) ++ List.replicate (4 - (lg_sl ([.ref h0, .ref h1, .ref (g 0), .int 0])).length) Slot.unset).toArray = ls at hl ⊢
  have hl : lv_has ls 4 [(0, .ref h0), (1, .ref h1), (2, .ref (g 0)), (3, .int 0)] := hl
  refine lv_iload_n hx hb dJx4a65c_add_72be8_0 rfl (lv_at hl 3 rfl) ?_
  refine lv_aload_n hx hb dJx4a65c_add_72be8_1 rfl (lv_at hl 2 rfl) ?_
  refine va_tlen (v := 0) hx hb (ns_f19 hF) hS (by decide) dJx4a65c_add_72be8_2 ?_
  refine lv_icmp_ne (tgt := 11) hx hb dJx4a65c_add_72be8_3 (by decide) (fun c1 => absurd (by decide) c1) (fun c1 => ?_)
  refine lv_aload_n hx hb dJx4a65c_add_72be8_6 rfl (lv_at hl 0 rfl) ?_
  have hPc := hP.sub (ws' := [(h0, .inr (6, [v0, .ref (g 0), .int 0]))]) [0] rfl
  have hDc := hD.sub (ws' := [(h0, .inr (6, [v0, .ref (g 0), .int 0]))]) [0] (by decide) rfl
  have hKc := hK.sub (tys' := []) [] rfl
  have hFc := va_free (wc := [(h0, .inr (6, [v0, .ref (g 0), .int 0]))]) hD hS hA [0] rfl
  refine va_callr (va_runV (As := []) (rest := []) ⟨hx, hb, hml, hown, hts⟩ (kJx4a65c_grow_d5877 l dC dI g s.heap.size h0 v0 ) (cwV 0 hts gJx4a65c_add_72be8_Jx4a65c_grow_d5877 rfl rfl rfl (by decide +kernel) ⟨Nat.le_of_ble_eq_true rfl, Nat.le_of_ble_eq_true rfl⟩) ⟨fun a U gg mk q => by obtain ⟨q0, q1, qP, qK, qD, qF⟩ := q; exact ⟨q0, q1, qP, va_K.moved (u := U) (U := U.calling gg mk a) (Vm.Alike.refl U.vm) qK, qD, ns_same qF⟩, va_recv hK hP (ci := 6) (q0 := 0) rfl rfl, fun U hU hW => ⟨rfl, by rw [hU], by rw [hU]; exact hPc, va_K.moved hW.alike hKc, hDc.weaken (fun _ _ _ _ => trivial), ns_call hF hS hFc hU hW⟩⟩ rfl rfl hl.1 rfl (lv_room (Nat.le_of_ble_eq_true rfl)) dJx4a65c_add_72be8_7 ⟨Nat.le_of_ble_eq_true rfl, Nat.le_of_ble_eq_true rfl⟩) hS (fun q _ h => hFc q h) hFc (fun u r9 t H1 locs ht hvm hw hB hz1 hk1 hS => ?_)
  obtain ⟨q2, cy3, rfl, hP1, hK1, hD1⟩ := hB
  rw [ht] at hP1
  have hK1 := va_K.moved hvm.symm hK1
  obtain ⟨hP, hD⟩ := va_join (wr := [(h1, .inr (18, [v1, v2, v3, v4]))]) (w1 := [(h0, .inr (6, [v0, .ref q2, .int 0])), (q2, .inl (cy3, 10, .inr (.inr (.inr (.inr (fun _ => none))))))]) hP hD [0] [1] rfl rfl (by decide) (by decide) hk1 hFc hP1 hD1
  have hK := (hK.sub (tys' := []) [] rfl).app hK1
  generalize H1 = H at hP hS ⊢
  have hP : va_P (dC, dI) vwCl [(h1, .inr (18, [v1, v2, v3, v4])), (h0, .inr (6, [v0, .ref q2, .int 0])), (q2, .inl (cy3, 10, .inr (.inr (.inr (.inr (fun _ => none))))))] H := hP
  have hD : va_D A [(h1, .inr (18, [v1, v2, v3, v4])), (h0, .inr (6, [v0, .ref q2, .int 0])), (q2, .inl (cy3, 10, .inr (.inr (.inr (.inr (fun _ => none))))))] := hD
  have hK : va_K (dC, dI) vwCl [(cy3, .object "java/lang/Object")] s := hK
  refine W.widen (k := 1) (n := 10) (Nat.le_of_ble_eq_true rfl) (Nat.le_of_ble_eq_true rfl) ?_
  refine lv_astore_n (lv' := [(2, .ref q2), (0, .ref h0), (1, .ref h1), (3, .int 0)]) hx hb dJx4a65c_add_72be8_10 rfl hl (by decide) rfl (fun ls hl => ?_)
  refine lv_aload_n hx hb dJx4a65c_add_72be8_11 rfl (lv_at hl 0 rfl) ?_
  refine lv_iload_n hx hb dJx4a65c_add_72be8_12 rfl (lv_at hl 3 rfl) ?_
  refine lv_aload_n hx hb dJx4a65c_add_72be8_13 rfl (lv_at hl 2 rfl) ?_
  refine va_astqO hx hb hK hP hD hS 2 0 0 18 rfl rfl (ns_f49 hF) rfl rfl (vp_in_nI (n := 0) (by decide) (by decide)) dJx4a65c_add_72be8_14 (fun H locs hP hD hS => ?_)
  have hP : va_P (dC, dI) vwCl [(h1, .inr (18, [v1, v2, v3, v4])), (h0, .inr (6, [v0, .ref q2, .int 0])), (q2, .inl (cy3, 10, .inr (.inr (.inr (.inr (va_up (fun _ => none) 0 (some h1)))))))] H := hP
  have hD : va_D A [(h1, .inr (18, [v1, v2, v3, v4])), (h0, .inr (6, [v0, .ref q2, .int 0])), (q2, .inl (cy3, 10, .inr (.inr (.inr (.inr (va_up (fun _ => none) 0 (some h1)))))))] := hD
  refine lv_aload_n hx hb dJx4a65c_add_72be8_15 rfl (lv_at hl 1 rfl) ?_
  refine lv_iload_n hx hb dJx4a65c_add_72be8_16 rfl (lv_at hl 3 rfl) ?_
  refine lv_iconst (v := 1) hx hb dJx4a65c_add_72be8_17 (by decide) ?_
  refine lv_iadd hx hb dJx4a65c_add_72be8_18 ?_
  refine lv_topi (fun y4 ey4 => ?_)
  obtain rfl : y4 = 1 := ey4.trans (by decide)
  refine va_put (D := (dC, dI)) (ci := 6) (v := .int 1) (ty := .int) (C := RJx4a65c) (T := TJx4a65c) (N := 3) hx hb hts (by decide +kernel) tyJx4a65c tyJx4a65c_ok nmJx4a65c hown hK hP hD hS 1 rfl rfl 2 (by decide) (hts (.fieldLink RJx4a65c 48 "java/util/ArrayList" "size" "I") (by decide +kernel)) (fun _ h9 => h9) rfl (by decide +kernel) rfl rfl (Nat.le_of_ble_eq_true rfl) dJx4a65c_add_72be8_19 (fun H locs hP hD hS => ?_)
  have hP : va_P (dC, dI) vwCl [(h1, .inr (18, [v1, v2, v3, v4])), (h0, .inr (6, [v0, .ref q2, .int 1])), (q2, .inl (cy3, 10, .inr (.inr (.inr (.inr (va_up (fun _ => none) 0 (some h1)))))))] H := hP
  have hD : va_D A [(h1, .inr (18, [v1, v2, v3, v4])), (h0, .inr (6, [v0, .ref q2, .int 1])), (q2, .inl (cy3, 10, .inr (.inr (.inr (.inr (va_up (fun _ => none) 0 (some h1)))))))] := hD
  have hP9 := hP.sub (ws' := [(h1, .inr (18, [v1, v2, v3, v4])), (h0, .inr (6, [v0, .ref q2, .int 1])), (q2, .inl (cy3, 10, .inr (.inr (.inr (.inr (va_up (fun _ => none) 0 (some h1)))))))]) [0, 1, 2] rfl
  have hD9 := hD.sub (ws' := [(h1, .inr (18, [v1, v2, v3, v4])), (h0, .inr (6, [v0, .ref q2, .int 1])), (q2, .inl (cy3, 10, .inr (.inr (.inr (.inr (va_up (fun _ => none) 0 (some h1)))))))]) [0, 1, 2] (by decide) rfl
  have hK9 := hK.sub (tys' := [(cy3, .object "java/lang/Object")]) [0] rfl
  refine W.widen (k := 1) (n := 10) (Nat.le_of_ble_eq_true rfl) (Nat.le_of_ble_eq_true rfl) ?_
  exact W.vret hx hb hr (fun t ht hW => ⟨⟨(), rfl, trivial, q2, cy3, by rw [ht]; exact hP9, va_K.moved hW.alike hK9, hD9⟩, hS.F ht⟩) hS.2.2 dJx4a65c_add_72be8_22
set_option maxHeartbeats 4000000 in
set_option maxRecDepth 100000 in
theorem kJx4a65c_add_9ea2d (l : Launch) (dC : Nat → ClassId) (dI : Nat → Nat → Nat) (g : Nat → Nat) (sz : Nat) (h0 : Nat) (h1 : Nat) (v0 : Value) (v1 : Value) (v2 : Value) (v3 : Value) : Met l yJx4a65c_add_9ea2d wsJx4a65c_add_9ea2d ({ frames := 4, cells := 1, slots := 10, locals := 80 }) (va_Pc [.ref h0, .ref h1] (fun U => U.heap.size = sz ∧ va_P (dC, dI) vwCl [(h0, .inr (6, [.int 0, .ref (g 0), .int 0])), (h1, .inr (18, [v0, v1, v2, v3]))] U.heap ∧ va_K (dC, dI) vwCl [] U ∧ va_D (fun _ => True) [(h0, .inr (6, [.int 0, .ref (g 0), .int 0])), (h1, .inr (18, [v0, v1, v2, v3]))] ∧ ns_F g (va_A [(h0, .inr (6, [.int 0, .ref (g 0), .int 0])), (h1, .inr (18, [v0, v1, v2, v3]))] sz) U U.heap)) (va_Qi (fun (r : Int32) (_ : Unit) => r = 1) (fun _ t => ∃ k0 : Nat, ∃ kc1 : ClassId, va_P (dC, dI) vwCl [(h1, .inr (18, [v0, v1, v2, v3])), (h0, .inr (6, [.int 1, .ref k0, .int 1])), (k0, .inl (kc1, 10, .inr (.inr (.inr (.inr (va_up (fun _ => none) 0 (some h1)))))))] t.heap ∧ va_K (dC, dI) vwCl [(kc1, .object "java/lang/Object")] t ∧ va_D (va_A [(h0, .inr (6, [.int 0, .ref (g 0), .int 0])), (h1, .inr (18, [v0, v1, v2, v3]))] sz) [(h1, .inr (18, [v0, v1, v2, v3])), (h0, .inr (6, [.int 1, .ref k0, .int 1])), (k0, .inl (kc1, 10, .inr (.inr (.inr (.inr (va_up (fun _ => none) 0 (some h1)))))))]) (va_A [(h0, .inr (6, [.int 0, .ref (g 0), .int 0])), (h1, .inr (18, [v0, v1, v2, v3]))] sz)) 1 10 (va_A [(h0, .inr (6, [.int 0, .ref (g 0), .int 0])), (h1, .inr (18, [v0, v1, v2, v3]))] sz) := by
  refine Met.ofW (cc := cJx4a65c_add_9ea2d) (maxL := 2) (ret := (some .boolean)) (by decide) rfl ?_
  intro p e s m args below meth c s₁ B hml hv
  obtain ⟨rfl, hsz, hP, hK, hD0, hF⟩ := hv
  have hx := B.exec
  have hb := B.bytes
  have hr := B.returns
  have hts := atoms_spec (ws := wsJx4a65c_add_9ea2d) B.pre
  have hown : s.vm.findClass RJx4a65c = some m.cls := findClass_of_methodNamed B.named
  have hlocks := B.notSynchronized
  subst hsz
  have hD := hD0.self (sz := s.heap.size)
  generalize hAe : va_A [(h0, .inr (6, [.int 0, .ref (g 0), .int 0])), (h1, .inr (18, [v0, v1, v2, v3]))] s.heap.size = A at hD hF ⊢
  have hA : ∀ q : Nat, s.heap.size ≤ q → A q := fun q h => by rw [← hAe]; exact Or.inr h
  have hS : va_S A s.heap s.heap [] := va_S.rf
  have hP : va_P (dC, dI) vwCl [(h0, .inr (6, [.int 0, .ref (g 0), .int 0])), (h1, .inr (18, [v0, v1, v2, v3]))] s.heap := hP
  have hl := lv_entry ([.ref h0, .ref h1]) (n := 2) (Nat.le_of_ble_eq_true rfl)
  rw [lg_entry_eq]
  generalize (lg_sl ([.ref h0, .ref h1]) ++ List.replicate (2 - (lg_sl ([.ref h0, .ref h1])).length) Slot.unset).toArray = ls at hl ⊢
  have hl : lv_has ls 2 [(0, .ref h0), (1, .ref h1)] := hl
  refine lv_aload_n hx hb dJx4a65c_add_9ea2d_0 rfl (lv_at hl 0 rfl) ?_
  refine lv_dup hx hb dJx4a65c_add_9ea2d_1 rfl ?_
  refine va_get (D := (dC, dI)) (ci := 6) (v := .int 0) (C := RJx4a65c) (T := TJx4a65c) (N := 3) hx hb hts (by decide +kernel) hown hK hP 0 rfl rfl 0 (by decide) (hts (.fieldLink RJx4a65c 63 "java/util/ArrayList" "modCount" "I") (by decide +kernel)) (fun _ h9 => h9) rfl dJx4a65c_add_9ea2d_2 ?_
  refine lv_iconst (v := 1) hx hb dJx4a65c_add_9ea2d_5 (by decide) ?_
  refine lv_iadd hx hb dJx4a65c_add_9ea2d_6 ?_
  refine lv_topi (fun y1 ey1 => ?_)
  obtain rfl : y1 = 1 := ey1.trans (by decide)
  refine va_put (D := (dC, dI)) (ci := 6) (v := .int 1) (ty := .int) (C := RJx4a65c) (T := TJx4a65c) (N := 3) hx hb hts (by decide +kernel) tyJx4a65c tyJx4a65c_ok nmJx4a65c hown hK hP hD hS 0 rfl rfl 0 (by decide) (hts (.fieldLink RJx4a65c 63 "java/util/ArrayList" "modCount" "I") (by decide +kernel)) (fun _ h9 => h9) rfl (by decide +kernel) rfl rfl (Nat.le_of_ble_eq_true rfl) dJx4a65c_add_9ea2d_7 (fun H locs hP hD hS => ?_)
  have hP : va_P (dC, dI) vwCl [(h0, .inr (6, [.int 1, .ref (g 0), .int 0])), (h1, .inr (18, [v0, v1, v2, v3]))] H := hP
  have hD : va_D A [(h0, .inr (6, [.int 1, .ref (g 0), .int 0])), (h1, .inr (18, [v0, v1, v2, v3]))] := hD
  refine lv_aload_n hx hb dJx4a65c_add_9ea2d_10 rfl (lv_at hl 0 rfl) ?_
  refine lv_aload_n hx hb dJx4a65c_add_9ea2d_11 rfl (lv_at hl 1 rfl) ?_
  refine lv_aload_n hx hb dJx4a65c_add_9ea2d_12 rfl (lv_at hl 0 rfl) ?_
  refine va_get (D := (dC, dI)) (ci := 6) (v := .ref (g 0)) (C := RJx4a65c) (T := TJx4a65c) (N := 3) hx hb hts (by decide +kernel) hown hK hP 0 rfl rfl 1 (by decide) (hts (.fieldLink RJx4a65c 9 "java/util/ArrayList" "elementData" "[Ljava/lang/Object;") (by decide +kernel)) (fun _ h9 => h9) rfl dJx4a65c_add_9ea2d_13 ?_
  refine lv_aload_n hx hb dJx4a65c_add_9ea2d_16 rfl (lv_at hl 0 rfl) ?_
  refine va_get (D := (dC, dI)) (ci := 6) (v := .int 0) (C := RJx4a65c) (T := TJx4a65c) (N := 3) hx hb hts (by decide +kernel) hown hK hP 0 rfl rfl 2 (by decide) (hts (.fieldLink RJx4a65c 48 "java/util/ArrayList" "size" "I") (by decide +kernel)) (fun _ h9 => h9) rfl dJx4a65c_add_9ea2d_17 ?_
  have hPc := hP.sub (ws' := [(h0, .inr (6, [.int 1, .ref (g 0), .int 0])), (h1, .inr (18, [v0, v1, v2, v3]))]) [0, 1] rfl
  have hDc := hD.sub (ws' := [(h0, .inr (6, [.int 1, .ref (g 0), .int 0])), (h1, .inr (18, [v0, v1, v2, v3]))]) [0, 1] (by decide) rfl
  have hKc := hK.sub (tys' := []) [] rfl
  have hFc := va_free (wc := [(h0, .inr (6, [.int 1, .ref (g 0), .int 0])), (h1, .inr (18, [v0, v1, v2, v3]))]) hD hS hA [0, 1] rfl
  refine va_callv (va_runV (As := [.ref h1, .ref (g 0), .int 0]) (rest := []) ⟨hx, hb, hml, hown, hts⟩ (kJx4a65c_add_72be8 l dC dI g H.size h0 h1 (.int 1) v0 v1 v2 v3 ) (cwV 3 hts gJx4a65c_add_9ea2d_Jx4a65c_add_72be8 rfl rfl rfl (by decide +kernel) ⟨Nat.le_of_ble_eq_true rfl, Nat.le_of_ble_eq_true rfl⟩) ⟨fun a U gg mk q => by obtain ⟨q0, q1, qP, qK, qD, qF⟩ := q; exact ⟨q0, q1, qP, va_K.moved (u := U) (U := U.calling gg mk a) (Vm.Alike.refl U.vm) qK, qD, ns_same qF⟩, va_recv hK hP (ci := 6) (q0 := 0) rfl rfl, fun U hU hW => ⟨rfl, by rw [hU], by rw [hU]; exact hPc, va_K.moved hW.alike hKc, hDc.weaken (fun _ _ _ _ => trivial), ns_call hF hS hFc hU hW⟩⟩ rfl rfl hl.1 rfl (lv_room (Nat.le_of_ble_eq_true rfl)) dJx4a65c_add_9ea2d_20 ⟨Nat.le_of_ble_eq_true rfl, Nat.le_of_ble_eq_true rfl⟩) hS (fun q _ h => hFc q h) hFc (fun u t H1 locs ht hvm hw hB hz1 hk1 hS => ?_)
  obtain ⟨q2, cy3, hP1, hK1, hD1⟩ := hB
  rw [ht] at hP1
  have hK1 := va_K.moved hvm.symm hK1
  obtain ⟨hP, hD⟩ := va_join (wr := []) (w1 := [(h1, .inr (18, [v0, v1, v2, v3])), (h0, .inr (6, [.int 1, .ref q2, .int 1])), (q2, .inl (cy3, 10, .inr (.inr (.inr (.inr (va_up (fun _ => none) 0 (some h1)))))))]) hP hD [0, 1] [] rfl rfl (by decide) (by decide) hk1 hFc hP1 hD1
  have hK := (hK.sub (tys' := []) [] rfl).app hK1
  generalize H1 = H at hP hS ⊢
  have hP : va_P (dC, dI) vwCl [(h1, .inr (18, [v0, v1, v2, v3])), (h0, .inr (6, [.int 1, .ref q2, .int 1])), (q2, .inl (cy3, 10, .inr (.inr (.inr (.inr (va_up (fun _ => none) 0 (some h1)))))))] H := hP
  have hD : va_D A [(h1, .inr (18, [v0, v1, v2, v3])), (h0, .inr (6, [.int 1, .ref q2, .int 1])), (q2, .inl (cy3, 10, .inr (.inr (.inr (.inr (va_up (fun _ => none) 0 (some h1)))))))] := hD
  have hK : va_K (dC, dI) vwCl [(cy3, .object "java/lang/Object")] s := hK
  refine W.widen (k := 1) (n := 10) (Nat.le_of_ble_eq_true rfl) (Nat.le_of_ble_eq_true rfl) ?_
  refine lv_iconst (v := 1) hx hb dJx4a65c_add_9ea2d_23 (by decide) ?_
  have hP9 := hP.sub (ws' := [(h1, .inr (18, [v0, v1, v2, v3])), (h0, .inr (6, [.int 1, .ref q2, .int 1])), (q2, .inl (cy3, 10, .inr (.inr (.inr (.inr (va_up (fun _ => none) 0 (some h1)))))))]) [0, 1, 2] rfl
  have hD9 := hD.sub (ws' := [(h1, .inr (18, [v0, v1, v2, v3])), (h0, .inr (6, [.int 1, .ref q2, .int 1])), (q2, .inl (cy3, 10, .inr (.inr (.inr (.inr (va_up (fun _ => none) 0 (some h1)))))))]) [0, 1, 2] (by decide) rfl
  have hK9 := hK.sub (tys' := [(cy3, .object "java/lang/Object")]) [0] rfl
  refine W.widen (k := 1) (n := 10) (Nat.le_of_ble_eq_true rfl) (Nat.le_of_ble_eq_true rfl) ?_
  exact W.zret (v := 1) hx hb hr (by decide) (fun t ht hW => ⟨⟨_, (), rfl, rfl, q2, cy3, by rw [ht]; exact hP9, va_K.moved hW.alike hK9, hD9⟩, hS.F ht⟩) hS.2.2 dJx4a65c_add_9ea2d_24
set_option maxHeartbeats 4000000 in
set_option maxRecDepth 100000 in
theorem kJx4a65c_size_8abf5_2 (l : Launch) (dC : Nat → ClassId) (dI : Nat → Nat → Nat) (g : Nat → Nat) (sz : Nat) (h0 : Nat) (v0 : Value) (v1 : Value) : Met l yJx4a65c_size_8abf5 wsJx4a65c_size_8abf5 ({ frames := 0, cells := 0, slots := 0, locals := 0 }) (va_Pc [.ref h0] (fun U => U.heap.size = sz ∧ va_P (dC, dI) vwCl [(h0, .inr (6, [v0, v1, .int 1]))] U.heap ∧ va_K (dC, dI) vwCl [] U ∧ va_D (fun _ => True) [(h0, .inr (6, [v0, v1, .int 1]))] ∧ ns_F g (va_A [(h0, .inr (6, [v0, v1, .int 1]))] sz) U U.heap)) (va_Qi (fun (r : Int32) (_ : Unit) => r = 1) (fun _ t => va_P (dC, dI) vwCl [(h0, .inr (6, [v0, v1, .int 1]))] t.heap ∧ va_K (dC, dI) vwCl [] t ∧ va_D (va_A [(h0, .inr (6, [v0, v1, .int 1]))] sz) [(h0, .inr (6, [v0, v1, .int 1]))]) (va_A [(h0, .inr (6, [v0, v1, .int 1]))] sz)) 0 0 (va_A [(h0, .inr (6, [v0, v1, .int 1]))] sz) := by
  refine Met.ofW (cc := cJx4a65c_size_8abf5) (maxL := 1) (ret := (some .int)) (by decide) rfl ?_
  intro p e s m args below meth c s₁ B hml hv
  obtain ⟨rfl, hsz, hP, hK, hD0, hF⟩ := hv
  have hx := B.exec
  have hb := B.bytes
  have hr := B.returns
  have hts := atoms_spec (ws := wsJx4a65c_size_8abf5) B.pre
  have hown : s.vm.findClass RJx4a65c = some m.cls := findClass_of_methodNamed B.named
  have hlocks := B.notSynchronized
  subst hsz
  have hD := hD0.self (sz := s.heap.size)
  generalize hAe : va_A [(h0, .inr (6, [v0, v1, .int 1]))] s.heap.size = A at hD hF ⊢
  have hA : ∀ q : Nat, s.heap.size ≤ q → A q := fun q h => by rw [← hAe]; exact Or.inr h
  have hS : va_S A s.heap s.heap [] := va_S.rf
  have hP : va_P (dC, dI) vwCl [(h0, .inr (6, [v0, v1, .int 1]))] s.heap := hP
  have hl := lv_entry ([.ref h0]) (n := 1) (Nat.le_of_ble_eq_true rfl)
  rw [lg_entry_eq]
  generalize (lg_sl ([.ref h0]) ++ List.replicate (1 - (lg_sl ([.ref h0])).length) Slot.unset).toArray = ls at hl ⊢
  have hl : lv_has ls 1 [(0, .ref h0)] := hl
  refine lv_aload_n hx hb dJx4a65c_size_8abf5_0 rfl (lv_at hl 0 rfl) ?_
  refine va_get (D := (dC, dI)) (ci := 6) (v := .int 1) (C := RJx4a65c) (T := TJx4a65c) (N := 3) hx hb hts (by decide +kernel) hown hK hP 0 rfl rfl 2 (by decide) (hts (.fieldLink RJx4a65c 48 "java/util/ArrayList" "size" "I") (by decide +kernel)) (fun _ h9 => h9) rfl dJx4a65c_size_8abf5_1 ?_
  have hP9 := hP.sub (ws' := [(h0, .inr (6, [v0, v1, .int 1]))]) [0] rfl
  have hD9 := hD.sub (ws' := [(h0, .inr (6, [v0, v1, .int 1]))]) [0] (by decide) rfl
  have hK9 := hK.sub (tys' := []) [] rfl
  refine W.widen (k := 0) (n := 0) (Nat.le_of_ble_eq_true rfl) (Nat.le_of_ble_eq_true rfl) ?_
  exact W.iret (v := 1) hx hb hr (fun t ht hW => ⟨⟨_, (), rfl, rfl, by rw [ht]; exact hP9, va_K.moved hW.alike hK9, hD9⟩, hS.F ht⟩) hS.2.2 dJx4a65c_size_8abf5_4
set_option maxHeartbeats 4000000 in
set_option maxRecDepth 100000 in
theorem kX16_made (l : Launch) (dC : Nat → ClassId) (dI : Nat → Nat → Nat) (g : Nat → Nat) (sz : Nat) (h0 : Nat) (h1 : Nat) (h2 : Nat) (v0 : Value) (v1 : Value) (v2 : Value) (v3 : Value) (v4 : Value) (v5 : Value) (v6 : Value) (v7 : Value) (v8 : Value) (v9 : Value) (v10 : Value) : Met l yX16_made wsX16_made ({ frames := 5, cells := 1, slots := 10, locals := 101 }) (va_Pc [.ref h0, .ref h1] (fun U => U.heap.size = sz ∧ va_P (dC, dI) vwCl [(h0, .inr (23, [v0, .ref h2, v1, v2, v3, v4, v5, v6, .int 0])), (h2, .inr (6, [.int 0, .ref (g 0), .int 0])), (h1, .inr (18, [v7, v8, v9, v10]))] U.heap ∧ va_K (dC, dI) vwCl [] U ∧ va_D (fun _ => True) [(h0, .inr (23, [v0, .ref h2, v1, v2, v3, v4, v5, v6, .int 0])), (h2, .inr (6, [.int 0, .ref (g 0), .int 0])), (h1, .inr (18, [v7, v8, v9, v10]))] ∧ ns_F g (va_A [(h0, .inr (23, [v0, .ref h2, v1, v2, v3, v4, v5, v6, .int 0])), (h2, .inr (6, [.int 0, .ref (g 0), .int 0])), (h1, .inr (18, [v7, v8, v9, v10]))] sz) U U.heap)) (va_Qi (fun (r : Int32) (_ : Unit) => r = 0) (fun _ t => ∃ k0 : Nat, ∃ kc1 : ClassId, va_P (dC, dI) vwCl [(h0, .inr (23, [v0, .ref h2, v1, v2, v3, v4, v5, v6, .int 1])), (h1, .inr (18, [v7, v8, v9, v10])), (k0, .inl (kc1, 10, .inr (.inr (.inr (.inr (va_up (fun _ => none) 0 (some h1))))))), (h2, .inr (6, [.int 1, .ref k0, .int 1]))] t.heap ∧ va_K (dC, dI) vwCl [(kc1, .object "java/lang/Object")] t ∧ va_D (va_A [(h0, .inr (23, [v0, .ref h2, v1, v2, v3, v4, v5, v6, .int 0])), (h2, .inr (6, [.int 0, .ref (g 0), .int 0])), (h1, .inr (18, [v7, v8, v9, v10]))] sz) [(h0, .inr (23, [v0, .ref h2, v1, v2, v3, v4, v5, v6, .int 1])), (h1, .inr (18, [v7, v8, v9, v10])), (k0, .inl (kc1, 10, .inr (.inr (.inr (.inr (va_up (fun _ => none) 0 (some h1))))))), (h2, .inr (6, [.int 1, .ref k0, .int 1]))]) (va_A [(h0, .inr (23, [v0, .ref h2, v1, v2, v3, v4, v5, v6, .int 0])), (h2, .inr (6, [.int 0, .ref (g 0), .int 0])), (h1, .inr (18, [v7, v8, v9, v10]))] sz)) 1 10 (va_A [(h0, .inr (23, [v0, .ref h2, v1, v2, v3, v4, v5, v6, .int 0])), (h2, .inr (6, [.int 0, .ref (g 0), .int 0])), (h1, .inr (18, [v7, v8, v9, v10]))] sz) := by
  refine Met.ofW (cc := cX16_made) (maxL := 2) (ret := (some .int)) (by decide) rfl ?_
  intro p e s m args below meth c s₁ B hml hv
  obtain ⟨rfl, hsz, hP, hK, hD0, hF⟩ := hv
  have hx := B.exec
  have hb := B.bytes
  have hr := B.returns
  have hts := atoms_spec (ws := wsX16_made) B.pre
  have hown : s.vm.findClass RX16 = some m.cls := findClass_of_methodNamed B.named
  have hlocks := B.notSynchronized
  subst hsz
  have hD := hD0.self (sz := s.heap.size)
  generalize hAe : va_A [(h0, .inr (23, [v0, .ref h2, v1, v2, v3, v4, v5, v6, .int 0])), (h2, .inr (6, [.int 0, .ref (g 0), .int 0])), (h1, .inr (18, [v7, v8, v9, v10]))] s.heap.size = A at hD hF ⊢
  have hA : ∀ q : Nat, s.heap.size ≤ q → A q := fun q h => by rw [← hAe]; exact Or.inr h
  have hS : va_S A s.heap s.heap [] := va_S.rf
  have hP : va_P (dC, dI) vwCl [(h0, .inr (23, [v0, .ref h2, v1, v2, v3, v4, v5, v6, .int 0])), (h2, .inr (6, [.int 0, .ref (g 0), .int 0])), (h1, .inr (18, [v7, v8, v9, v10]))] s.heap := hP
  have hl := lv_entry ([.ref h0, .ref h1]) (n := 2) (Nat.le_of_ble_eq_true rfl)
  rw [lg_entry_eq]
  generalize (lg_sl ([.ref h0, .ref h1]) ++ List.replicate (2 - (lg_sl ([.ref h0, .ref h1])).length) Slot.unset).toArray = ls at hl ⊢
  have hl : lv_has ls 2 [(0, .ref h0), (1, .ref h1)] := hl
  refine lv_aload_n hx hb dX16_made_0 rfl (lv_at hl 0 rfl) ?_
  refine va_get (D := (dC, dI)) (ci := 23) (v := .ref h2) (C := RX16) (T := TX16) (N := 9) hx hb hts (by decide +kernel) hown hK hP 0 rfl rfl 1 (by decide) (hts (.fieldLink RX16 10 "NestprintModel" "nodes" "Ljava/util/ArrayList;") (by decide +kernel)) (fun _ h9 => h9) rfl dX16_made_1 ?_
  refine lv_aload_n hx hb dX16_made_4 rfl (lv_at hl 1 rfl) ?_
  have hPc := hP.sub (ws' := [(h2, .inr (6, [.int 0, .ref (g 0), .int 0])), (h1, .inr (18, [v7, v8, v9, v10]))]) [1, 2] rfl
  have hDc := hD.sub (ws' := [(h2, .inr (6, [.int 0, .ref (g 0), .int 0])), (h1, .inr (18, [v7, v8, v9, v10]))]) [1, 2] (by decide) rfl
  have hKc := hK.sub (tys' := []) [] rfl
  have hFc := va_free (wc := [(h2, .inr (6, [.int 0, .ref (g 0), .int 0])), (h1, .inr (18, [v7, v8, v9, v10]))]) hD hS hA [1, 2] rfl
  refine va_calli (va_runV (As := [.ref h1]) (rest := []) ⟨hx, hb, hml, hown, hts⟩ (kJx4a65c_add_9ea2d l dC dI g s.heap.size h2 h1 v7 v8 v9 v10 ) (cwV 1 hts gX16_made_Jx4a65c_add_9ea2d rfl rfl rfl (by decide +kernel) ⟨Nat.le_of_ble_eq_true rfl, Nat.le_of_ble_eq_true rfl⟩) ⟨fun a U gg mk q => by obtain ⟨q0, q1, qP, qK, qD, qF⟩ := q; exact ⟨q0, q1, qP, va_K.moved (u := U) (U := U.calling gg mk a) (Vm.Alike.refl U.vm) qK, qD, ns_same qF⟩, va_recv hK hP (ci := 6) (q0 := 1) rfl rfl, fun U hU hW => ⟨rfl, by rw [hU], by rw [hU]; exact hPc, va_K.moved hW.alike hKc, hDc.weaken (fun _ _ _ _ => trivial), ns_call hF hS hFc hU hW⟩⟩ rfl rfl hl.1 rfl (lv_room (Nat.le_of_ble_eq_true rfl)) dX16_made_5 ⟨Nat.le_of_ble_eq_true rfl, Nat.le_of_ble_eq_true rfl⟩) hS (fun q _ h => hFc q h) hFc (fun r9 u t H1 locs ht hvm hw hB hz1 hk1 hS => ?_)
  obtain rfl := hw
  obtain ⟨q1, cy2, hP1, hK1, hD1⟩ := hB
  rw [ht] at hP1
  have hK1 := va_K.moved hvm.symm hK1
  obtain ⟨hP, hD⟩ := va_join (wr := [(h0, .inr (23, [v0, .ref h2, v1, v2, v3, v4, v5, v6, .int 0]))]) (w1 := [(h1, .inr (18, [v7, v8, v9, v10])), (h2, .inr (6, [.int 1, .ref q1, .int 1])), (q1, .inl (cy2, 10, .inr (.inr (.inr (.inr (va_up (fun _ => none) 0 (some h1)))))))]) hP hD [1, 2] [0] rfl rfl (by decide) (by decide) hk1 hFc hP1 hD1
  have hK := (hK.sub (tys' := []) [] rfl).app hK1
  generalize H1 = H at hP hS ⊢
  have hP : va_P (dC, dI) vwCl [(h0, .inr (23, [v0, .ref h2, v1, v2, v3, v4, v5, v6, .int 0])), (h1, .inr (18, [v7, v8, v9, v10])), (h2, .inr (6, [.int 1, .ref q1, .int 1])), (q1, .inl (cy2, 10, .inr (.inr (.inr (.inr (va_up (fun _ => none) 0 (some h1)))))))] H := hP
  have hD : va_D A [(h0, .inr (23, [v0, .ref h2, v1, v2, v3, v4, v5, v6, .int 0])), (h1, .inr (18, [v7, v8, v9, v10])), (h2, .inr (6, [.int 1, .ref q1, .int 1])), (q1, .inl (cy2, 10, .inr (.inr (.inr (.inr (va_up (fun _ => none) 0 (some h1)))))))] := hD
  have hK : va_K (dC, dI) vwCl [(cy2, .object "java/lang/Object")] s := hK
  refine W.widen (k := 1) (n := 10) (Nat.le_of_ble_eq_true rfl) (Nat.le_of_ble_eq_true rfl) ?_
  refine lv_pop hx hb dX16_made_8 rfl ?_
  refine lv_aload_n hx hb dX16_made_9 rfl (lv_at hl 0 rfl) ?_
  refine lv_dup hx hb dX16_made_10 rfl ?_
  refine va_get (D := (dC, dI)) (ci := 23) (v := .int 0) (C := RX16) (T := TX16) (N := 9) hx hb hts (by decide +kernel) hown hK hP 0 rfl rfl 8 (by decide) (hts (.fieldLink RX16 193 "NestprintModel" "ever" "I") (by decide +kernel)) (fun _ h9 => h9) rfl dX16_made_11 ?_
  refine lv_iconst (v := 1) hx hb dX16_made_14 (by decide) ?_
  refine lv_iadd hx hb dX16_made_15 ?_
  refine lv_topi (fun y3 ey3 => ?_)
  obtain rfl : y3 = 1 := ey3.trans (by decide)
  refine va_put (D := (dC, dI)) (ci := 23) (v := .int 1) (ty := .int) (C := RX16) (T := TX16) (N := 9) hx hb hts (by decide +kernel) tyX16 tyX16_ok nmX16 hown hK hP hD hS 0 rfl rfl 8 (by decide) (hts (.fieldLink RX16 193 "NestprintModel" "ever" "I") (by decide +kernel)) (fun _ h9 => h9) rfl (by decide +kernel) rfl rfl (Nat.le_of_ble_eq_true rfl) dX16_made_16 (fun H locs hP hD hS => ?_)
  have hP : va_P (dC, dI) vwCl [(h0, .inr (23, [v0, .ref h2, v1, v2, v3, v4, v5, v6, .int 1])), (h1, .inr (18, [v7, v8, v9, v10])), (h2, .inr (6, [.int 1, .ref q1, .int 1])), (q1, .inl (cy2, 10, .inr (.inr (.inr (.inr (va_up (fun _ => none) 0 (some h1)))))))] H := hP
  have hD : va_D A [(h0, .inr (23, [v0, .ref h2, v1, v2, v3, v4, v5, v6, .int 1])), (h1, .inr (18, [v7, v8, v9, v10])), (h2, .inr (6, [.int 1, .ref q1, .int 1])), (q1, .inl (cy2, 10, .inr (.inr (.inr (.inr (va_up (fun _ => none) 0 (some h1)))))))] := hD
  refine lv_aload_n hx hb dX16_made_19 rfl (lv_at hl 0 rfl) ?_
  refine va_get (D := (dC, dI)) (ci := 23) (v := .ref h2) (C := RX16) (T := TX16) (N := 9) hx hb hts (by decide +kernel) hown hK hP 0 rfl rfl 1 (by decide) (hts (.fieldLink RX16 10 "NestprintModel" "nodes" "Ljava/util/ArrayList;") (by decide +kernel)) (fun _ h9 => h9) rfl dX16_made_20 ?_
  have hPc := hP.sub (ws' := [(h2, .inr (6, [.int 1, .ref q1, .int 1]))]) [2] rfl
  have hDc := hD.sub (ws' := [(h2, .inr (6, [.int 1, .ref q1, .int 1]))]) [2] (by decide) rfl
  have hKc := hK.sub (tys' := []) [] rfl
  have hFc := va_free (wc := [(h2, .inr (6, [.int 1, .ref q1, .int 1]))]) hD hS hA [2] rfl
  refine va_calli (va_runV (As := []) (rest := []) ⟨hx, hb, hml, hown, hts⟩ (kJx4a65c_size_8abf5_2 l dC dI g H.size h2 (.int 1) (.ref q1) ) (cwV 0 hts gX16_made_Jx4a65c_size_8abf5 rfl rfl rfl (by decide +kernel) ⟨Nat.le_of_ble_eq_true rfl, Nat.le_of_ble_eq_true rfl⟩) ⟨fun a U gg mk q => by obtain ⟨q0, q1, qP, qK, qD, qF⟩ := q; exact ⟨q0, q1, qP, va_K.moved (u := U) (U := U.calling gg mk a) (Vm.Alike.refl U.vm) qK, qD, ns_same qF⟩, va_recv hK hP (ci := 6) (q0 := 2) rfl rfl, fun U hU hW => ⟨rfl, by rw [hU], by rw [hU]; exact hPc, va_K.moved hW.alike hKc, hDc.weaken (fun _ _ _ _ => trivial), ns_call hF hS hFc hU hW⟩⟩ rfl rfl hl.1 rfl (lv_room (Nat.le_of_ble_eq_true rfl)) dX16_made_23 ⟨Nat.le_of_ble_eq_true rfl, Nat.le_of_ble_eq_true rfl⟩) hS (fun q _ h => hFc q h) hFc (fun r9 u t H1 locs ht hvm hw hB hz1 hk1 hS => ?_)
  obtain rfl := hw
  obtain ⟨hP1, hK1, hD1⟩ := hB
  rw [ht] at hP1
  have hK1 := va_K.moved hvm.symm hK1
  obtain ⟨hP, hD⟩ := va_join (wr := [(h0, .inr (23, [v0, .ref h2, v1, v2, v3, v4, v5, v6, .int 1])), (h1, .inr (18, [v7, v8, v9, v10])), (q1, .inl (cy2, 10, .inr (.inr (.inr (.inr (va_up (fun _ => none) 0 (some h1)))))))]) (w1 := [(h2, .inr (6, [.int 1, .ref q1, .int 1]))]) hP hD [2] [0, 1, 3] rfl rfl (by decide) (by decide) hk1 hFc hP1 hD1
  have hK := (hK.sub (tys' := [(cy2, .object "java/lang/Object")]) [0] rfl).app hK1
  generalize H1 = H at hP hS ⊢
  have hP : va_P (dC, dI) vwCl [(h0, .inr (23, [v0, .ref h2, v1, v2, v3, v4, v5, v6, .int 1])), (h1, .inr (18, [v7, v8, v9, v10])), (q1, .inl (cy2, 10, .inr (.inr (.inr (.inr (va_up (fun _ => none) 0 (some h1))))))), (h2, .inr (6, [.int 1, .ref q1, .int 1]))] H := hP
  have hD : va_D A [(h0, .inr (23, [v0, .ref h2, v1, v2, v3, v4, v5, v6, .int 1])), (h1, .inr (18, [v7, v8, v9, v10])), (q1, .inl (cy2, 10, .inr (.inr (.inr (.inr (va_up (fun _ => none) 0 (some h1))))))), (h2, .inr (6, [.int 1, .ref q1, .int 1]))] := hD
  have hK : va_K (dC, dI) vwCl [(cy2, .object "java/lang/Object")] s := hK
  refine W.widen (k := 1) (n := 10) (Nat.le_of_ble_eq_true rfl) (Nat.le_of_ble_eq_true rfl) ?_
  refine lv_iconst (v := 1) hx hb dX16_made_26 (by decide) ?_
  refine lv_isub hx hb dX16_made_27 ?_
  refine lv_topi (fun y4 ey4 => ?_)
  obtain rfl : y4 = 0 := ey4.trans (by decide)
  have hP9 := hP.sub (ws' := [(h0, .inr (23, [v0, .ref h2, v1, v2, v3, v4, v5, v6, .int 1])), (h1, .inr (18, [v7, v8, v9, v10])), (q1, .inl (cy2, 10, .inr (.inr (.inr (.inr (va_up (fun _ => none) 0 (some h1))))))), (h2, .inr (6, [.int 1, .ref q1, .int 1]))]) [0, 1, 2, 3] rfl
  have hD9 := hD.sub (ws' := [(h0, .inr (23, [v0, .ref h2, v1, v2, v3, v4, v5, v6, .int 1])), (h1, .inr (18, [v7, v8, v9, v10])), (q1, .inl (cy2, 10, .inr (.inr (.inr (.inr (va_up (fun _ => none) 0 (some h1))))))), (h2, .inr (6, [.int 1, .ref q1, .int 1]))]) [0, 1, 2, 3] (by decide) rfl
  have hK9 := hK.sub (tys' := [(cy2, .object "java/lang/Object")]) [0] rfl
  refine W.widen (k := 1) (n := 10) (Nat.le_of_ble_eq_true rfl) (Nat.le_of_ble_eq_true rfl) ?_
  exact W.iret (v := 0) hx hb hr (fun t ht hW => ⟨⟨_, (), rfl, rfl, q1, cy2, by rw [ht]; exact hP9, va_K.moved hW.alike hK9, hD9⟩, hS.F ht⟩) hS.2.2 dX16_made_28
set_option maxHeartbeats 4000000 in
set_option maxRecDepth 100000 in
theorem kX16_mark_2 (l : Launch) (dC : Nat → ClassId) (dI : Nat → Nat → Nat) (g : Nat → Nat) (sz : Nat) (h0 : Nat) (x0 : Int32) (h1 : Nat) (v0 : Value) (v1 : Value) (v2 : Value) (v3 : Value) (v4 : Value) (v5 : Value) (v6 : Value) (ex0 : (1 : Int) ≤ x0.toInt ∧ x0.toInt ≤ (4 : Int)) : Met l yX16_mark wsX16_mark ({ frames := 6, cells := 3, slots := 17, locals := 122 }) (va_Pc [.ref h0, .int x0] (fun U => U.heap.size = sz ∧ va_P (dC, dI) vwCl [(h0, .inr (23, [v0, .ref h1, v1, v2, v3, v4, v5, v6, .int 0])), (h1, .inr (6, [.int 0, .ref (g 0), .int 0]))] U.heap ∧ va_K (dC, dI) vwCl [] U ∧ va_D (fun _ => True) [(h0, .inr (23, [v0, .ref h1, v1, v2, v3, v4, v5, v6, .int 0])), (h1, .inr (6, [.int 0, .ref (g 0), .int 0]))] ∧ ns_F g (va_A [(h0, .inr (23, [v0, .ref h1, v1, v2, v3, v4, v5, v6, .int 0])), (h1, .inr (6, [.int 0, .ref (g 0), .int 0]))] sz) U U.heap)) (va_Qi (fun (r : Int32) (_ : Unit) => r = 0) (fun _ t => ∃ k0 : Nat, ∃ k1 : Nat, ∃ k2 : Nat, ∃ kc3 : ClassId, va_P (dC, dI) vwCl [(k1, .inr (6, [.int 0, .ref (g 0), .int 0])), (h0, .inr (23, [.int 0, .ref h1, v1, v2, v3, v4, v5, v6, .int 1])), (k0, .inr (18, [.int x0, .ref (g 34), .int 0, .ref k1])), (k2, .inl (kc3, 10, .inr (.inr (.inr (.inr (va_up (fun _ => none) 0 (some k0))))))), (h1, .inr (6, [.int 1, .ref k2, .int 1]))] t.heap ∧ va_K (dC, dI) vwCl [(kc3, .object "java/lang/Object")] t ∧ va_D (va_A [(h0, .inr (23, [v0, .ref h1, v1, v2, v3, v4, v5, v6, .int 0])), (h1, .inr (6, [.int 0, .ref (g 0), .int 0]))] sz) [(k1, .inr (6, [.int 0, .ref (g 0), .int 0])), (h0, .inr (23, [.int 0, .ref h1, v1, v2, v3, v4, v5, v6, .int 1])), (k0, .inr (18, [.int x0, .ref (g 34), .int 0, .ref k1])), (k2, .inl (kc3, 10, .inr (.inr (.inr (.inr (va_up (fun _ => none) 0 (some k0))))))), (h1, .inr (6, [.int 1, .ref k2, .int 1]))]) (va_A [(h0, .inr (23, [v0, .ref h1, v1, v2, v3, v4, v5, v6, .int 0])), (h1, .inr (6, [.int 0, .ref (g 0), .int 0]))] sz)) 3 17 (va_A [(h0, .inr (23, [v0, .ref h1, v1, v2, v3, v4, v5, v6, .int 0])), (h1, .inr (6, [.int 0, .ref (g 0), .int 0]))] sz) := by
  refine Met.ofW (cc := cX16_mark) (maxL := 2) (ret := (some .int)) (by decide) rfl ?_
  intro p e s m args below meth c s₁ B hml hv
  obtain ⟨rfl, hsz, hP, hK, hD0, hF⟩ := hv
  have hx := B.exec
  have hb := B.bytes
  have hr := B.returns
  have hts := atoms_spec (ws := wsX16_mark) B.pre
  have hown : s.vm.findClass RX16 = some m.cls := findClass_of_methodNamed B.named
  have hlocks := B.notSynchronized
  subst hsz
  have hD := hD0.self (sz := s.heap.size)
  generalize hAe : va_A [(h0, .inr (23, [v0, .ref h1, v1, v2, v3, v4, v5, v6, .int 0])), (h1, .inr (6, [.int 0, .ref (g 0), .int 0]))] s.heap.size = A at hD hF ⊢
  have hA : ∀ q : Nat, s.heap.size ≤ q → A q := fun q h => by rw [← hAe]; exact Or.inr h
  have hS : va_S A s.heap s.heap [] := va_S.rf
  have hP : va_P (dC, dI) vwCl [(h0, .inr (23, [v0, .ref h1, v1, v2, v3, v4, v5, v6, .int 0])), (h1, .inr (6, [.int 0, .ref (g 0), .int 0]))] s.heap := hP
  have hl := lv_entry ([.ref h0, .int x0]) (n := 2) (Nat.le_of_ble_eq_true rfl)
  rw [lg_entry_eq]
  generalize (lg_sl ([.ref h0, .int x0]) ++ List.replicate (2 - (lg_sl ([.ref h0, .int x0])).length) Slot.unset).toArray = ls at hl ⊢
  have hl : lv_has ls 2 [(0, .ref h0), (1, .int x0)] := hl
  refine lv_aload_n hx hb dX16_mark_0 rfl (lv_at hl 0 rfl) ?_
  refine lv_iload_n hx hb dX16_mark_1 rfl (lv_at hl 1 rfl) ?_
  refine lv_iconst (v := 1) hx hb dX16_mark_2 (by decide) ?_
  refine lv_iconst (v := 4) hx hb dX16_mark_3 (by decide) ?_
  have hPc := hP.sub (ws' := []) [] rfl
  have hDc := hD.sub (ws' := []) [] (by decide) rfl
  have hKc := hK.sub (tys' := []) [] rfl
  have hFc := va_free (wc := []) hD hS hA [] rfl
  refine va_calli (va_runS (As := [.int x0, .int 1, .int 4]) (rest := [.ref h0]) ⟨hx, hb, hml, hown, hts⟩ (kX16_isIn_6 l dC dI g s.heap.size x0 ⟨by omega, by omega⟩) (va_cwS 3 hts gX16_mark_X16_isIn rfl rfl rfl (by decide +kernel) ⟨Nat.le_of_ble_eq_true rfl, Nat.le_of_ble_eq_true rfl⟩) ⟨fun a U gg mk q => by obtain ⟨q0, q1, qP, qK, qD, qF⟩ := q; exact ⟨q0, q1, qP, va_K.moved (u := U) (U := U.calling gg mk a) (Vm.Alike.refl U.vm) qK, qD, ns_same qF⟩, fun U hU hW => ⟨rfl, by rw [hU], by rw [hU]; exact hPc, va_K.moved hW.alike hKc, hDc.weaken (fun _ _ _ _ => trivial), ns_call hF hS hFc hU hW⟩⟩ rfl rfl hl.1 rfl (lv_room (Nat.le_of_ble_eq_true rfl)) dX16_mark_4 ⟨Nat.le_of_ble_eq_true rfl, Nat.le_of_ble_eq_true rfl⟩) hS (fun q _ h => hFc q h) hFc (fun r9 u t H1 locs ht hvm hw hB hz1 hk1 hS => ?_)
  obtain rfl := hw
  obtain ⟨hP1, hK1, hD1⟩ := hB
  rw [ht] at hP1
  have hK1 := va_K.moved hvm.symm hK1
  obtain ⟨hP, hD⟩ := va_join (wr := [(h0, .inr (23, [v0, .ref h1, v1, v2, v3, v4, v5, v6, .int 0])), (h1, .inr (6, [.int 0, .ref (g 0), .int 0]))]) (w1 := []) hP hD [] [0, 1] rfl rfl (by decide) (by decide) hk1 hFc hP1 hD1
  have hK := (hK.sub (tys' := []) [] rfl).app hK1
  generalize H1 = H at hP hS ⊢
  have hP : va_P (dC, dI) vwCl [(h0, .inr (23, [v0, .ref h1, v1, v2, v3, v4, v5, v6, .int 0])), (h1, .inr (6, [.int 0, .ref (g 0), .int 0]))] H := hP
  have hD : va_D A [(h0, .inr (23, [v0, .ref h1, v1, v2, v3, v4, v5, v6, .int 0])), (h1, .inr (6, [.int 0, .ref (g 0), .int 0]))] := hD
  have hK : va_K (dC, dI) vwCl [] s := hK
  refine W.widen (k := 0) (n := 0) (Nat.le_of_ble_eq_true rfl) (Nat.le_of_ble_eq_true rfl) ?_
  refine lv_if_ne (tgt := 14) hx hb dX16_mark_7 (by decide) (fun c1 => ?_) (fun c1 => absurd c1 (by decide))
  refine lv_iconst (v := 0) hx hb dX16_mark_14 (by decide) ?_
  refine lv_iconst (v := 1) hx hb dX16_mark_15 (by decide) ?_
  have hPc := hP.sub (ws' := [(h0, .inr (23, [v0, .ref h1, v1, v2, v3, v4, v5, v6, .int 0]))]) [0] rfl
  have hDc := hD.sub (ws' := [(h0, .inr (23, [v0, .ref h1, v1, v2, v3, v4, v5, v6, .int 0]))]) [0] (by decide) rfl
  have hKc := hK.sub (tys' := []) [] rfl
  have hFc := va_free (wc := [(h0, .inr (23, [v0, .ref h1, v1, v2, v3, v4, v5, v6, .int 0]))]) hD hS hA [0] rfl
  refine va_calli (va_runV (As := [.int 0, .int 1]) (rest := []) ⟨hx, hb, hml, hown, hts⟩ (kX16_start_2 l dC dI g H.size h0 v0 (.ref h1) v1 v2 v3 v4 v5 v6 (.int 0) ) (cwV 2 hts gX16_mark_X16_start rfl rfl rfl (by decide +kernel) ⟨Nat.le_of_ble_eq_true rfl, Nat.le_of_ble_eq_true rfl⟩) ⟨fun a U gg mk q => by obtain ⟨q0, q1, qP, qK, qD, qF⟩ := q; exact ⟨q0, q1, qP, va_K.moved (u := U) (U := U.calling gg mk a) (Vm.Alike.refl U.vm) qK, qD, ns_same qF⟩, va_recv hK hP (ci := 23) (q0 := 0) rfl rfl, fun U hU hW => ⟨rfl, by rw [hU], by rw [hU]; exact hPc, va_K.moved hW.alike hKc, hDc.weaken (fun _ _ _ _ => trivial), ns_call hF hS hFc hU hW⟩⟩ rfl rfl hl.1 rfl (lv_room (Nat.le_of_ble_eq_true rfl)) dX16_mark_16 ⟨Nat.le_of_ble_eq_true rfl, Nat.le_of_ble_eq_true rfl⟩) hS (fun q _ h => hFc q h) hFc (fun r9 u t H1 locs ht hvm hw hB hz1 hk1 hS => ?_)
  obtain rfl := hw
  obtain ⟨hP1, hK1, hD1⟩ := hB
  rw [ht] at hP1
  have hK1 := va_K.moved hvm.symm hK1
  obtain ⟨hP, hD⟩ := va_join (wr := [(h1, .inr (6, [.int 0, .ref (g 0), .int 0]))]) (w1 := [(h0, .inr (23, [.int 0, .ref h1, v1, v2, v3, v4, v5, v6, .int 0]))]) hP hD [0] [1] rfl rfl (by decide) (by decide) hk1 hFc hP1 hD1
  have hK := (hK.sub (tys' := []) [] rfl).app hK1
  generalize H1 = H at hP hS ⊢
  have hP : va_P (dC, dI) vwCl [(h1, .inr (6, [.int 0, .ref (g 0), .int 0])), (h0, .inr (23, [.int 0, .ref h1, v1, v2, v3, v4, v5, v6, .int 0]))] H := hP
  have hD : va_D A [(h1, .inr (6, [.int 0, .ref (g 0), .int 0])), (h0, .inr (23, [.int 0, .ref h1, v1, v2, v3, v4, v5, v6, .int 0]))] := hD
  have hK : va_K (dC, dI) vwCl [] s := hK
  refine W.widen (k := 0) (n := 0) (Nat.le_of_ble_eq_true rfl) (Nat.le_of_ble_eq_true rfl) ?_
  refine lv_if_ne (tgt := 34) hx hb dX16_mark_19 (by decide) (fun c2 => absurd (by decide) c2) (fun c2 => ?_)
  refine lv_aload_n hx hb dX16_mark_22 rfl (lv_at hl 0 rfl) ?_
  refine lv_aload_n hx hb dX16_mark_23 rfl (lv_at hl 0 rfl) ?_
  have hPc := hP.sub (ws' := [(h0, .inr (23, [.int 0, .ref h1, v1, v2, v3, v4, v5, v6, .int 0])), (h1, .inr (6, [.int 0, .ref (g 0), .int 0]))]) [1, 0] rfl
  have hDc := hD.sub (ws' := [(h0, .inr (23, [.int 0, .ref h1, v1, v2, v3, v4, v5, v6, .int 0])), (h1, .inr (6, [.int 0, .ref (g 0), .int 0]))]) [1, 0] (by decide) rfl
  have hKc := hK.sub (tys' := []) [] rfl
  have hFc := va_free (wc := [(h0, .inr (23, [.int 0, .ref h1, v1, v2, v3, v4, v5, v6, .int 0])), (h1, .inr (6, [.int 0, .ref (g 0), .int 0]))]) hD hS hA [1, 0] rfl
  refine va_calli (va_runV (As := []) (rest := [.ref h0]) ⟨hx, hb, hml, hown, hts⟩ (kX16_isFull l dC dI g H.size h0 h1 (.int 0) v1 v2 v3 v4 v5 v6 (.int 0) (.int 0) (.ref (g 0)) ) (cwV 0 hts gX16_mark_X16_isFull rfl rfl rfl (by decide +kernel) ⟨Nat.le_of_ble_eq_true rfl, Nat.le_of_ble_eq_true rfl⟩) ⟨fun a U gg mk q => by obtain ⟨q0, q1, qP, qK, qD, qF⟩ := q; exact ⟨q0, q1, qP, va_K.moved (u := U) (U := U.calling gg mk a) (Vm.Alike.refl U.vm) qK, qD, ns_same qF⟩, va_recv hK hP (ci := 23) (q0 := 1) rfl rfl, fun U hU hW => ⟨rfl, by rw [hU], by rw [hU]; exact hPc, va_K.moved hW.alike hKc, hDc.weaken (fun _ _ _ _ => trivial), ns_call hF hS hFc hU hW⟩⟩ rfl rfl hl.1 rfl (lv_room (Nat.le_of_ble_eq_true rfl)) dX16_mark_24 ⟨Nat.le_of_ble_eq_true rfl, Nat.le_of_ble_eq_true rfl⟩) hS (fun q _ h => hFc q h) hFc (fun r9 u t H1 locs ht hvm hw hB hz1 hk1 hS => ?_)
  obtain rfl := hw
  obtain ⟨hP1, hK1, hD1⟩ := hB
  rw [ht] at hP1
  have hK1 := va_K.moved hvm.symm hK1
  obtain ⟨hP, hD⟩ := va_join (wr := []) (w1 := [(h0, .inr (23, [.int 0, .ref h1, v1, v2, v3, v4, v5, v6, .int 0])), (h1, .inr (6, [.int 0, .ref (g 0), .int 0]))]) hP hD [1, 0] [] rfl rfl (by decide) (by decide) hk1 hFc hP1 hD1
  have hK := (hK.sub (tys' := []) [] rfl).app hK1
  generalize H1 = H at hP hS ⊢
  have hP : va_P (dC, dI) vwCl [(h0, .inr (23, [.int 0, .ref h1, v1, v2, v3, v4, v5, v6, .int 0])), (h1, .inr (6, [.int 0, .ref (g 0), .int 0]))] H := hP
  have hD : va_D A [(h0, .inr (23, [.int 0, .ref h1, v1, v2, v3, v4, v5, v6, .int 0])), (h1, .inr (6, [.int 0, .ref (g 0), .int 0]))] := hD
  have hK : va_K (dC, dI) vwCl [] s := hK
  refine W.widen (k := 0) (n := 0) (Nat.le_of_ble_eq_true rfl) (Nat.le_of_ble_eq_true rfl) ?_
  refine lv_iconst (v := 2) hx hb dX16_mark_27 (by decide) ?_
  have hPc := hP.sub (ws' := [(h0, .inr (23, [.int 0, .ref h1, v1, v2, v3, v4, v5, v6, .int 0]))]) [0] rfl
  have hDc := hD.sub (ws' := [(h0, .inr (23, [.int 0, .ref h1, v1, v2, v3, v4, v5, v6, .int 0]))]) [0] (by decide) rfl
  have hKc := hK.sub (tys' := []) [] rfl
  have hFc := va_free (wc := [(h0, .inr (23, [.int 0, .ref h1, v1, v2, v3, v4, v5, v6, .int 0]))]) hD hS hA [0] rfl
  refine va_calli (va_runV (As := [.int 0, .int 2]) (rest := []) ⟨hx, hb, hml, hown, hts⟩ (kX16_refuse_3 l dC dI g H.size h0 (.ref h1) v1 v2 v3 v4 v5 v6 (.int 0) ) (cwV 2 hts gX16_mark_X16_refuse rfl rfl rfl (by decide +kernel) ⟨Nat.le_of_ble_eq_true rfl, Nat.le_of_ble_eq_true rfl⟩) ⟨fun a U gg mk q => by obtain ⟨q0, q1, qP, qK, qD, qF⟩ := q; exact ⟨q0, q1, qP, va_K.moved (u := U) (U := U.calling gg mk a) (Vm.Alike.refl U.vm) qK, qD, ns_same qF⟩, va_recv hK hP (ci := 23) (q0 := 0) rfl rfl, fun U hU hW => ⟨rfl, by rw [hU], by rw [hU]; exact hPc, va_K.moved hW.alike hKc, hDc.weaken (fun _ _ _ _ => trivial), ns_call hF hS hFc hU hW⟩⟩ rfl rfl hl.1 rfl (lv_room (Nat.le_of_ble_eq_true rfl)) dX16_mark_28 ⟨Nat.le_of_ble_eq_true rfl, Nat.le_of_ble_eq_true rfl⟩) hS (fun q _ h => hFc q h) hFc (fun r9 u t H1 locs ht hvm hw hB hz1 hk1 hS => ?_)
  obtain rfl := hw
  obtain ⟨hP1, hK1, hD1⟩ := hB
  rw [ht] at hP1
  have hK1 := va_K.moved hvm.symm hK1
  obtain ⟨hP, hD⟩ := va_join (wr := [(h1, .inr (6, [.int 0, .ref (g 0), .int 0]))]) (w1 := [(h0, .inr (23, [.int 0, .ref h1, v1, v2, v3, v4, v5, v6, .int 0]))]) hP hD [0] [1] rfl rfl (by decide) (by decide) hk1 hFc hP1 hD1
  have hK := (hK.sub (tys' := []) [] rfl).app hK1
  generalize H1 = H at hP hS ⊢
  have hP : va_P (dC, dI) vwCl [(h1, .inr (6, [.int 0, .ref (g 0), .int 0])), (h0, .inr (23, [.int 0, .ref h1, v1, v2, v3, v4, v5, v6, .int 0]))] H := hP
  have hD : va_D A [(h1, .inr (6, [.int 0, .ref (g 0), .int 0])), (h0, .inr (23, [.int 0, .ref h1, v1, v2, v3, v4, v5, v6, .int 0]))] := hD
  have hK : va_K (dC, dI) vwCl [] s := hK
  refine W.widen (k := 0) (n := 0) (Nat.le_of_ble_eq_true rfl) (Nat.le_of_ble_eq_true rfl) ?_
  refine lv_if_eq (tgt := 38) hx hb dX16_mark_31 (by decide) (fun c3 => ?_) (fun c3 => absurd (by decide) c3)
  refine lv_aload_n hx hb dX16_mark_38 rfl (lv_at hl 0 rfl) ?_
  refine va_new (ci := 18) (fs := [.int 0, .null, .int 0, .null]) (C := RX11) (T := TX11) (N := 4) hx hb hts (by decide +kernel) tyX11 tyX11_ok hown (hts (.classLink RX16 70 RX11) (by decide +kernel)) (hts (.instantiable RX11 4) (by decide +kernel)) (hts (.initialized RX11) (by decide +kernel)) hK hP hD hS hA rfl (fun j hj => by rcases (show j = 0 ∨ j = 1 ∨ j = 2 ∨ j = 3 by omega) with rfl | rfl | rfl | rfl <;> rfl) (Nat.le_of_ble_eq_true rfl) (Nat.le_of_ble_eq_true rfl) dX16_mark_39 (fun q4 H hP hD hS => ?_)
  have hP : va_P (dC, dI) vwCl [(h1, .inr (6, [.int 0, .ref (g 0), .int 0])), (h0, .inr (23, [.int 0, .ref h1, v1, v2, v3, v4, v5, v6, .int 0])), (q4, .inr (18, [.int 0, .null, .int 0, .null]))] H := hP
  have hD : va_D A [(h1, .inr (6, [.int 0, .ref (g 0), .int 0])), (h0, .inr (23, [.int 0, .ref h1, v1, v2, v3, v4, v5, v6, .int 0])), (q4, .inr (18, [.int 0, .null, .int 0, .null]))] := hD
  refine W.widen (k := 1) (n := 4) (Nat.le_of_ble_eq_true rfl) (Nat.le_of_ble_eq_true rfl) ?_
  refine lv_dup hx hb dX16_mark_42 rfl ?_
  refine lv_iload_n hx hb dX16_mark_43 rfl (lv_at hl 1 rfl) ?_
  refine va_ldcS hx hb hown (ns_f32 hF) dX16_mark_44 ?_
  refine lv_iconst (v := 0) hx hb dX16_mark_46 (by decide) ?_
  have hPc := hP.sub (ws' := [(q4, .inr (18, [.int 0, .null, .int 0, .null]))]) [2] rfl
  have hDc := hD.sub (ws' := [(q4, .inr (18, [.int 0, .null, .int 0, .null]))]) [2] (by decide) rfl
  have hKc := hK.sub (tys' := []) [] rfl
  have hFc := va_free (wc := [(q4, .inr (18, [.int 0, .null, .int 0, .null]))]) hD hS hA [2] rfl
  refine va_callv (va_runI (As := [.int x0, .ref (g 34), .int 0]) (rest := [.ref q4, .ref h0]) ⟨hx, hb, hml, hown, hts⟩ (kX11_init l dC dI g H.size q4 x0 (.int 0) .null (.int 0) .null ⟨by omega, by omega⟩) (cwI 3 hts gX16_mark_X11_init rfl rfl rfl (hts (.initialized RX11) (by decide +kernel)) (hts (.methodLink RX16 202 yX11_init) (by decide +kernel)) (hts (.instanceMethod yX11_init) (by decide +kernel)) rfl (by decide +kernel) ⟨Nat.le_of_ble_eq_true rfl, Nat.le_of_ble_eq_true rfl⟩) ⟨fun a U gg mk q => by obtain ⟨q0, q1, qP, qK, qD, qF⟩ := q; exact ⟨q0, q1, qP, va_K.moved (u := U) (U := U.calling gg mk a) (Vm.Alike.refl U.vm) qK, qD, ns_same qF⟩, fun U hU hW => ⟨rfl, by rw [hU], by rw [hU]; exact hPc, va_K.moved hW.alike hKc, hDc.weaken (fun _ _ _ _ => trivial), ns_call hF hS hFc hU hW⟩⟩ rfl rfl hl.1 rfl (lv_room (Nat.le_of_ble_eq_true rfl)) dX16_mark_47 ⟨Nat.le_of_ble_eq_true rfl, Nat.le_of_ble_eq_true rfl⟩) hS (fun q _ h => hFc q h) hFc (fun u t H1 locs ht hvm hw hB hz1 hk1 hS => ?_)
  obtain ⟨q5, hP1, hK1, hD1⟩ := hB
  rw [ht] at hP1
  have hK1 := va_K.moved hvm.symm hK1
  obtain ⟨hP, hD⟩ := va_join (wr := [(h1, .inr (6, [.int 0, .ref (g 0), .int 0])), (h0, .inr (23, [.int 0, .ref h1, v1, v2, v3, v4, v5, v6, .int 0]))]) (w1 := [(q4, .inr (18, [.int x0, .ref (g 34), .int 0, .ref q5])), (q5, .inr (6, [.int 0, .ref (g 0), .int 0]))]) hP hD [2] [0, 1] rfl rfl (by decide) (by decide) hk1 hFc hP1 hD1
  have hK := (hK.sub (tys' := []) [] rfl).app hK1
  generalize H1 = H at hP hS ⊢
  have hP : va_P (dC, dI) vwCl [(h1, .inr (6, [.int 0, .ref (g 0), .int 0])), (h0, .inr (23, [.int 0, .ref h1, v1, v2, v3, v4, v5, v6, .int 0])), (q4, .inr (18, [.int x0, .ref (g 34), .int 0, .ref q5])), (q5, .inr (6, [.int 0, .ref (g 0), .int 0]))] H := hP
  have hD : va_D A [(h1, .inr (6, [.int 0, .ref (g 0), .int 0])), (h0, .inr (23, [.int 0, .ref h1, v1, v2, v3, v4, v5, v6, .int 0])), (q4, .inr (18, [.int x0, .ref (g 34), .int 0, .ref q5])), (q5, .inr (6, [.int 0, .ref (g 0), .int 0]))] := hD
  have hK : va_K (dC, dI) vwCl [] s := hK
  refine W.widen (k := 2) (n := 7) (Nat.le_of_ble_eq_true rfl) (Nat.le_of_ble_eq_true rfl) ?_
  have hPc := hP.sub (ws' := [(h0, .inr (23, [.int 0, .ref h1, v1, v2, v3, v4, v5, v6, .int 0])), (h1, .inr (6, [.int 0, .ref (g 0), .int 0])), (q4, .inr (18, [.int x0, .ref (g 34), .int 0, .ref q5]))]) [1, 0, 2] rfl
  have hDc := hD.sub (ws' := [(h0, .inr (23, [.int 0, .ref h1, v1, v2, v3, v4, v5, v6, .int 0])), (h1, .inr (6, [.int 0, .ref (g 0), .int 0])), (q4, .inr (18, [.int x0, .ref (g 34), .int 0, .ref q5]))]) [1, 0, 2] (by decide) rfl
  have hKc := hK.sub (tys' := []) [] rfl
  have hFc := va_free (wc := [(h0, .inr (23, [.int 0, .ref h1, v1, v2, v3, v4, v5, v6, .int 0])), (h1, .inr (6, [.int 0, .ref (g 0), .int 0])), (q4, .inr (18, [.int x0, .ref (g 34), .int 0, .ref q5]))]) hD hS hA [1, 0, 2] rfl
  refine va_calli (va_runV (As := [.ref q4]) (rest := []) ⟨hx, hb, hml, hown, hts⟩ (kX16_made l dC dI g H.size h0 q4 h1 (.int 0) v1 v2 v3 v4 v5 v6 (.int x0) (.ref (g 34)) (.int 0) (.ref q5) ) (cwV 1 hts gX16_mark_X16_made rfl rfl rfl (by decide +kernel) ⟨Nat.le_of_ble_eq_true rfl, Nat.le_of_ble_eq_true rfl⟩) ⟨fun a U gg mk q => by obtain ⟨q0, q1, qP, qK, qD, qF⟩ := q; exact ⟨q0, q1, qP, va_K.moved (u := U) (U := U.calling gg mk a) (Vm.Alike.refl U.vm) qK, qD, ns_same qF⟩, va_recv hK hP (ci := 23) (q0 := 1) rfl rfl, fun U hU hW => ⟨rfl, by rw [hU], by rw [hU]; exact hPc, va_K.moved hW.alike hKc, hDc.weaken (fun _ _ _ _ => trivial), ns_call hF hS hFc hU hW⟩⟩ rfl rfl hl.1 rfl (lv_room (Nat.le_of_ble_eq_true rfl)) dX16_mark_50 ⟨Nat.le_of_ble_eq_true rfl, Nat.le_of_ble_eq_true rfl⟩) hS (fun q _ h => hFc q h) hFc (fun r9 u t H1 locs ht hvm hw hB hz1 hk1 hS => ?_)
  obtain rfl := hw
  obtain ⟨q6, cy7, hP1, hK1, hD1⟩ := hB
  rw [ht] at hP1
  have hK1 := va_K.moved hvm.symm hK1
  obtain ⟨hP, hD⟩ := va_join (wr := [(q5, .inr (6, [.int 0, .ref (g 0), .int 0]))]) (w1 := [(h0, .inr (23, [.int 0, .ref h1, v1, v2, v3, v4, v5, v6, .int 1])), (q4, .inr (18, [.int x0, .ref (g 34), .int 0, .ref q5])), (q6, .inl (cy7, 10, .inr (.inr (.inr (.inr (va_up (fun _ => none) 0 (some q4))))))), (h1, .inr (6, [.int 1, .ref q6, .int 1]))]) hP hD [1, 0, 2] [3] rfl rfl (by decide) (by decide) hk1 hFc hP1 hD1
  have hK := (hK.sub (tys' := []) [] rfl).app hK1
  generalize H1 = H at hP hS ⊢
  have hP : va_P (dC, dI) vwCl [(q5, .inr (6, [.int 0, .ref (g 0), .int 0])), (h0, .inr (23, [.int 0, .ref h1, v1, v2, v3, v4, v5, v6, .int 1])), (q4, .inr (18, [.int x0, .ref (g 34), .int 0, .ref q5])), (q6, .inl (cy7, 10, .inr (.inr (.inr (.inr (va_up (fun _ => none) 0 (some q4))))))), (h1, .inr (6, [.int 1, .ref q6, .int 1]))] H := hP
  have hD : va_D A [(q5, .inr (6, [.int 0, .ref (g 0), .int 0])), (h0, .inr (23, [.int 0, .ref h1, v1, v2, v3, v4, v5, v6, .int 1])), (q4, .inr (18, [.int x0, .ref (g 34), .int 0, .ref q5])), (q6, .inl (cy7, 10, .inr (.inr (.inr (.inr (va_up (fun _ => none) 0 (some q4))))))), (h1, .inr (6, [.int 1, .ref q6, .int 1]))] := hD
  have hK : va_K (dC, dI) vwCl [(cy7, .object "java/lang/Object")] s := hK
  refine W.widen (k := 3) (n := 17) (Nat.le_of_ble_eq_true rfl) (Nat.le_of_ble_eq_true rfl) ?_
  have hP9 := hP.sub (ws' := [(q5, .inr (6, [.int 0, .ref (g 0), .int 0])), (h0, .inr (23, [.int 0, .ref h1, v1, v2, v3, v4, v5, v6, .int 1])), (q4, .inr (18, [.int x0, .ref (g 34), .int 0, .ref q5])), (q6, .inl (cy7, 10, .inr (.inr (.inr (.inr (va_up (fun _ => none) 0 (some q4))))))), (h1, .inr (6, [.int 1, .ref q6, .int 1]))]) [0, 1, 2, 3, 4] rfl
  have hD9 := hD.sub (ws' := [(q5, .inr (6, [.int 0, .ref (g 0), .int 0])), (h0, .inr (23, [.int 0, .ref h1, v1, v2, v3, v4, v5, v6, .int 1])), (q4, .inr (18, [.int x0, .ref (g 34), .int 0, .ref q5])), (q6, .inl (cy7, 10, .inr (.inr (.inr (.inr (va_up (fun _ => none) 0 (some q4))))))), (h1, .inr (6, [.int 1, .ref q6, .int 1]))]) [0, 1, 2, 3, 4] (by decide) rfl
  have hK9 := hK.sub (tys' := [(cy7, .object "java/lang/Object")]) [0] rfl
  refine W.widen (k := 3) (n := 17) (Nat.le_of_ble_eq_true rfl) (Nat.le_of_ble_eq_true rfl) ?_
  exact W.iret (v := 0) hx hb hr (fun t ht hW => ⟨⟨_, (), rfl, rfl, q4, q5, q6, cy7, by rw [ht]; exact hP9, va_K.moved hW.alike hK9, hD9⟩, hS.F ht⟩) hS.2.2 dX16_mark_53
set_option maxHeartbeats 4000000 in
set_option maxRecDepth 100000 in
theorem kX16_thrown_2 (l : Launch) (dC : Nat → ClassId) (dI : Nat → Nat → Nat) (g : Nat → Nat) (sz : Nat) (h0 : Nat) (v0 : Value) (v1 : Value) (v2 : Value) (v3 : Value) (v4 : Value) (v5 : Value) (v6 : Value) (v7 : Value) : Met l yX16_thrown wsX16_thrown ({ frames := 0, cells := 0, slots := 0, locals := 0 }) (va_Pc [.ref h0] (fun U => U.heap.size = sz ∧ va_P (dC, dI) vwCl [(h0, .inr (23, [.int 0, v0, v1, v2, v3, v4, v5, v6, v7]))] U.heap ∧ va_K (dC, dI) vwCl [] U ∧ va_D (fun _ => True) [(h0, .inr (23, [.int 0, v0, v1, v2, v3, v4, v5, v6, v7]))] ∧ ns_F g (va_A [(h0, .inr (23, [.int 0, v0, v1, v2, v3, v4, v5, v6, v7]))] sz) U U.heap)) (va_Qi (fun (r : Int32) (_ : Unit) => r = 0) (fun _ t => va_P (dC, dI) vwCl [(h0, .inr (23, [.int 0, v0, v1, v2, v3, v4, v5, v6, v7]))] t.heap ∧ va_K (dC, dI) vwCl [] t ∧ va_D (va_A [(h0, .inr (23, [.int 0, v0, v1, v2, v3, v4, v5, v6, v7]))] sz) [(h0, .inr (23, [.int 0, v0, v1, v2, v3, v4, v5, v6, v7]))]) (va_A [(h0, .inr (23, [.int 0, v0, v1, v2, v3, v4, v5, v6, v7]))] sz)) 0 0 (va_A [(h0, .inr (23, [.int 0, v0, v1, v2, v3, v4, v5, v6, v7]))] sz) := by
  refine Met.ofW (cc := cX16_thrown) (maxL := 1) (ret := (some .int)) (by decide) rfl ?_
  intro p e s m args below meth c s₁ B hml hv
  obtain ⟨rfl, hsz, hP, hK, hD0, hF⟩ := hv
  have hx := B.exec
  have hb := B.bytes
  have hr := B.returns
  have hts := atoms_spec (ws := wsX16_thrown) B.pre
  have hown : s.vm.findClass RX16 = some m.cls := findClass_of_methodNamed B.named
  have hlocks := B.notSynchronized
  subst hsz
  have hD := hD0.self (sz := s.heap.size)
  generalize hAe : va_A [(h0, .inr (23, [.int 0, v0, v1, v2, v3, v4, v5, v6, v7]))] s.heap.size = A at hD hF ⊢
  have hA : ∀ q : Nat, s.heap.size ≤ q → A q := fun q h => by rw [← hAe]; exact Or.inr h
  have hS : va_S A s.heap s.heap [] := va_S.rf
  have hP : va_P (dC, dI) vwCl [(h0, .inr (23, [.int 0, v0, v1, v2, v3, v4, v5, v6, v7]))] s.heap := hP
  have hl := lv_entry ([.ref h0]) (n := 1) (Nat.le_of_ble_eq_true rfl)
  rw [lg_entry_eq]
  generalize (lg_sl ([.ref h0]) ++ List.replicate (1 - (lg_sl ([.ref h0])).length) Slot.unset).toArray = ls at hl ⊢
  have hl : lv_has ls 1 [(0, .ref h0)] := hl
  refine lv_aload_n hx hb dX16_thrown_0 rfl (lv_at hl 0 rfl) ?_
  refine va_get (D := (dC, dI)) (ci := 23) (v := .int 0) (C := RX16) (T := TX16) (N := 9) hx hb hts (by decide +kernel) hown hK hP 0 rfl rfl 0 (by decide) (hts (.fieldLink RX16 176 "NestprintModel" "thrown" "I") (by decide +kernel)) (fun _ h9 => h9) rfl dX16_thrown_1 ?_
  have hP9 := hP.sub (ws' := [(h0, .inr (23, [.int 0, v0, v1, v2, v3, v4, v5, v6, v7]))]) [0] rfl
  have hD9 := hD.sub (ws' := [(h0, .inr (23, [.int 0, v0, v1, v2, v3, v4, v5, v6, v7]))]) [0] (by decide) rfl
  have hK9 := hK.sub (tys' := []) [] rfl
  refine W.widen (k := 0) (n := 0) (Nat.le_of_ble_eq_true rfl) (Nat.le_of_ble_eq_true rfl) ?_
  exact W.iret (v := 0) hx hb hr (fun t ht hW => ⟨⟨_, (), rfl, rfl, by rw [ht]; exact hP9, va_K.moved hW.alike hK9, hD9⟩, hS.F ht⟩) hS.2.2 dX16_thrown_4
set_option maxHeartbeats 4000000 in
set_option maxRecDepth 100000 in
theorem kX9_mark_3 (l : Launch) (dC : Nat → ClassId) (dI : Nat → Nat → Nat) (g : Nat → Nat) (sz : Nat) (h0 : Nat) (x0 : Int32) (ex0 : (5 : Int) ≤ x0.toInt ∧ x0.toInt ≤ (2147483647 : Int)) (hlt : l.stackTraces = false) : vx_Met l yX9_mark wsX9_mark ({ frames := 6, cells := 1, slots := 6, locals := 82 }) (va_Pc [.ref h0, .int x0] (fun U => U.heap.size = sz ∧ va_P (dC, dI) vwCl [] U.heap ∧ va_K (dC, dI) vwCl [] U ∧ va_D (fun _ => True) [] ∧ ns_F g (va_A [] sz) U U.heap)) (va_Qv (fun _ : Unit => False) (fun _ _ => True) (va_A [] sz)) (vx_X (fun _ : Unit => True) (fun E _ _ => E = "java/lang/IllegalArgumentException") (va_A [] sz)) 1 6 (va_A [] sz) := by
  refine vx_ofW (cc := cX9_mark) (maxL := 2) (ret := (some .int)) (by decide) rfl ?_
  intro p e s m args below meth c s₁ B hml hnox hv
  obtain ⟨rfl, hsz, hP, hK, hD0, hF⟩ := hv
  have hx := B.exec
  have hb := B.bytes
  have hr := B.returns
  have hts := atoms_spec (ws := wsX9_mark) B.pre
  have hown : s.vm.findClass RX9 = some m.cls := findClass_of_methodNamed B.named
  have hlocks := B.notSynchronized
  subst hsz
  have hD := hD0.self (sz := s.heap.size)
  generalize hAe : va_A [] s.heap.size = A at hD hF ⊢
  have hA : ∀ q : Nat, s.heap.size ≤ q → A q := fun q h => by rw [← hAe]; exact Or.inr h
  have hS : va_S A s.heap s.heap [] := va_S.rf
  have hP : va_P (dC, dI) vwCl [] s.heap := hP
  have hl := lv_entry ([.ref h0, .int x0]) (n := 2) (Nat.le_of_ble_eq_true rfl)
  rw [lg_entry_eq]
  generalize (lg_sl ([.ref h0, .int x0]) ++ List.replicate (2 - (lg_sl ([.ref h0, .int x0])).length) Slot.unset).toArray = ls at hl ⊢
  have hl : lv_has ls 2 [(0, .ref h0), (1, .int x0)] := hl
  refine lv_iload_n hx hb dX9_mark_0 rfl (lv_at hl 1 rfl) ?_
  refine lv_iconst (v := 1) hx hb dX9_mark_1 (by decide) ?_
  refine lv_icmp_lt (tgt := 10) hx hb dX9_mark_2 (by decide) (fun c1 => absurd c1 (fun z => absurd (Int32.lt_iff_toInt_lt.mp z : x0.toInt < (1 : Int)) (by omega))) (fun c1 => ?_)
  refine lv_iload_n hx hb dX9_mark_5 rfl (lv_at hl 1 rfl) ?_
  refine lv_iconst (v := 4) hx hb dX9_mark_6 (by decide) ?_
  refine lv_icmp_le (tgt := 20) hx hb dX9_mark_7 (by decide) (fun c2 => absurd c2 (fun z => absurd (Int32.le_iff_toInt_le.mp z : x0.toInt ≤ (4 : Int)) (by omega))) (fun c2 => ?_)
  exact vx_throwS hx hb hlt (text := "kind is 1 to 4") (sa := (g 14)) (names := ["java/lang/RuntimeException", "java/lang/Exception"]) hown (by decide) (by decide) (hts (.classLink RX9 100 "java/lang/IllegalArgumentException") (by decide +kernel)) (hts (.initialized "java/lang/IllegalArgumentException") (by decide +kernel)) (ns_f22 hF) (vx_hat (B := [.declares ⟨"java/lang/RuntimeException", "<init>", "(Ljava/lang/String;)V"⟩, .declares ⟨"java/lang/Exception", "<init>", "(Ljava/lang/String;)V"⟩, .declares ⟨"java/lang/Throwable", "<init>", "(Ljava/lang/String;)V"⟩, .castable "java/lang/IllegalArgumentException" "java/lang/IllegalArgumentException"]) (fun w9 h9 => hts w9 (List.mem_cons_of_mem _ ((fun h9 => List.mem_append_left _ (List.mem_append_left _ (List.mem_append_right _ h9))) h9))) (by decide +kernel) (vx_c (va_Nw.use rfl (ns_f12 hF)) (vx_c (va_Nw.use rfl (ns_f13 hF)) (vx_c (va_Nw.use rfl (ns_f14 hF)) (vx_c (va_Nw.use rfl (ns_f11 hF)) vx_n))))) (by decide +kernel) (ns_f17 hF) (ns_f18 hF) hS (by rw [hml]; exact hl.1) dX9_mark_10 dX9_mark_13 dX9_mark_14 dX9_mark_16 dX9_mark_19 (fun x hx => (hnox x hx).elim) (Nat.le_of_ble_eq_true rfl) (Nat.le_of_ble_eq_true rfl) (Nat.le_of_ble_eq_true rfl) (Nat.le_of_ble_eq_true rfl) hlocks (fun t9 hal hsz9 hk9 => ⟨(), trivial, rfl, Nat.le_trans hS.1 hsz9, fun q hq1 hq2 => (hk9 q (Nat.lt_of_lt_of_le hq1 hS.1)).trans (hS.2.1 q hq1 hq2)⟩) hS.2.2 (Nat.le_of_ble_eq_true rfl) (Nat.le_of_ble_eq_true rfl)
set_option maxHeartbeats 4000000 in
set_option maxRecDepth 100000 in
theorem kL_mark_3 (l : Launch) (dC : Nat → ClassId) (dI : Nat → Nat → Nat) (g : Nat → Nat) (sz : Nat) (h0 : Nat) (x0 : Int32) (h1 : Nat) (v0 : Value) (v1 : Value) (v2 : Value) (v3 : Value) (v4 : Value) (v5 : Value) (v6 : Value) (v7 : Value) (v8 : Value) (v9 : Value) (v10 : Value) (v11 : Value) (v12 : Value) (v13 : Value) (v14 : Value) (v15 : Value) (ex0 : (5 : Int) ≤ x0.toInt ∧ x0.toInt ≤ (2147483647 : Int)) (hlt : l.stackTraces = false) : Met l yL_mark wsL_mark ({ frames := 7, cells := 1, slots := 6, locals := 103 }) (va_Pc [.ref h0, .int x0, .ref h1] (fun U => U.heap.size = sz ∧ va_P (dC, dI) vwCl [(h0, .inr (16, [v0, v1, v2, v3, v4, v5, v6, v7, v8, v9, v10, v11, v12, v13, v14, v15]))] U.heap ∧ va_K (dC, dI) vwCl [] U ∧ va_D (fun _ => True) [(h0, .inr (16, [v0, v1, v2, v3, v4, v5, v6, v7, v8, v9, v10, v11, v12, v13, v14, v15]))] ∧ ns_F g (va_A [(h0, .inr (16, [v0, v1, v2, v3, v4, v5, v6, v7, v8, v9, v10, v11, v12, v13, v14, v15]))] sz) U U.heap)) (va_Qi (fun (r : Int32) (_ : Unit) => r = 1) (fun _ t => va_P (dC, dI) vwCl [(h0, .inr (16, [v0, v1, v2, v3, v4, v5, v6, v7, v8, v9, v10, v11, v12, v13, v14, v15]))] t.heap ∧ va_K (dC, dI) vwCl [] t ∧ va_D (va_A [(h0, .inr (16, [v0, v1, v2, v3, v4, v5, v6, v7, v8, v9, v10, v11, v12, v13, v14, v15]))] sz) [(h0, .inr (16, [v0, v1, v2, v3, v4, v5, v6, v7, v8, v9, v10, v11, v12, v13, v14, v15]))]) (va_A [(h0, .inr (16, [v0, v1, v2, v3, v4, v5, v6, v7, v8, v9, v10, v11, v12, v13, v14, v15]))] sz)) 1 6 (va_A [(h0, .inr (16, [v0, v1, v2, v3, v4, v5, v6, v7, v8, v9, v10, v11, v12, v13, v14, v15]))] sz) := by
  refine va_MetW (cc := cL_mark) (maxL := 4) (ret := (some .int)) (hh := [(0, 10, 13, 19), (0, 10, 16, 21)]) (by decide) rfl ?_
  intro p e s m args below meth c s₁ B hml hv
  obtain ⟨rfl, hsz, hP, hK, hD0, hF⟩ := hv
  have hx := B.exec
  have hb := B.bytes
  have hr := B.returns
  have hts := atoms_spec (ws := wsL_mark) B.pre
  have hown : s.vm.findClass RL = some m.cls := findClass_of_methodNamed B.named
  have hlocks := B.notSynchronized
  have htab : c.exceptionTable.toList = [⟨0, 10, 13, 19⟩, ⟨0, 10, 16, 21⟩] := vx_table B (hts _ List.mem_cons_self)
  subst hsz
  have hD := hD0.self (sz := s.heap.size)
  generalize hAe : va_A [(h0, .inr (16, [v0, v1, v2, v3, v4, v5, v6, v7, v8, v9, v10, v11, v12, v13, v14, v15]))] s.heap.size = A at hD hF ⊢
  have hA : ∀ q : Nat, s.heap.size ≤ q → A q := fun q h => by rw [← hAe]; exact Or.inr h
  have hS : va_S A s.heap s.heap [] := va_S.rf
  have hP : va_P (dC, dI) vwCl [(h0, .inr (16, [v0, v1, v2, v3, v4, v5, v6, v7, v8, v9, v10, v11, v12, v13, v14, v15]))] s.heap := hP
  have hl := lv_entry ([.ref h0, .int x0, .ref h1]) (n := 4) (Nat.le_of_ble_eq_true rfl)
  rw [lg_entry_eq]
  generalize (lg_sl ([.ref h0, .int x0, .ref h1]) ++ List.replicate (4 - (lg_sl ([.ref h0, .int x0, .ref h1])).length) Slot.unset).toArray = ls at hl ⊢
  have hl : lv_has ls 4 [(0, .ref h0), (1, .int x0), (2, .ref h1)] := hl
  refine lv_aload_n hx hb dL_mark_0 rfl (lv_at hl 2 rfl) ?_
  refine lv_aload_n hx hb dL_mark_1 rfl (lv_at hl 0 rfl) ?_
  refine lv_iload_n hx hb dL_mark_2 rfl (lv_at hl 1 rfl) ?_
  have hPc := hP.sub (ws' := []) [] rfl
  have hDc := hD.sub (ws' := []) [] (by decide) rfl
  have hKc := hK.sub (tys' := []) [] rfl
  have hFc := va_free (wc := []) hD hS hA [] rfl
  refine vx_callv (vx_runV (As := [.int x0]) (rest := [.ref h1]) ⟨hx, hb, hml, hown, hts⟩ (kX9_mark_3 l dC dI g s.heap.size h0 x0 ⟨by omega, by omega⟩ hlt) (cwV 1 hts gL_mark_X9_mark rfl rfl rfl (by decide +kernel) ⟨Nat.le_of_ble_eq_true rfl, Nat.le_of_ble_eq_true rfl⟩) ⟨fun a U gg mk q => by obtain ⟨q0, q1, qP, qK, qD, qF⟩ := q; exact ⟨q0, q1, qP, va_K.moved (u := U) (U := U.calling gg mk a) (Vm.Alike.refl U.vm) qK, qD, ns_same qF⟩, va_recv hK hP (ci := 16) (q0 := 0) rfl rfl, fun U hU hW => ⟨rfl, by rw [hU], by rw [hU]; exact hPc, va_K.moved hW.alike hKc, hDc.weaken (fun _ _ _ _ => trivial), ns_call hF hS hFc hU hW⟩⟩ rfl rfl hl.1 rfl (lv_room (Nat.le_of_ble_eq_true rfl)) dL_mark_3 ⟨Nat.le_of_ble_eq_true rfl, Nat.le_of_ble_eq_true rfl⟩) hS (fun q _ h => hFc q h) hFc (fun q _ h => hFc q h) (fun E ce q9 u t H1 locs ht hvm hw hB hz1 hk1 hS hc1 hc2 hc3 => ?_) (fun _ _ _ _ _ _ hw _ _ _ _ => False.elim hw)
  obtain rfl : E = "java/lang/IllegalArgumentException" := hB
  obtain ⟨hP, hD⟩ := va_join (wr := [(h0, .inr (16, [v0, v1, v2, v3, v4, v5, v6, v7, v8, v9, v10, v11, v12, v13, v14, v15]))]) (w1 := []) hP hD [] [0] rfl rfl (by decide) (by decide) hk1 hFc (fun k q h => by simp at h) ⟨fun i j p q h => by simp at h, fun k q h => by simp at h⟩
  have hK := hK.sub (tys' := []) [] rfl
  generalize H1 = H at hP hS hc1 ⊢
  have hP : va_P (dC, dI) vwCl [(h0, .inr (16, [v0, v1, v2, v3, v4, v5, v6, v7, v8, v9, v10, v11, v12, v13, v14, v15]))] H := hP
  have hD : va_D A [(h0, .inr (16, [v0, v1, v2, v3, v4, v5, v6, v7, v8, v9, v10, v11, v12, v13, v14, v15]))] := hD
  have hK : va_K (dC, dI) vwCl [] s := hK
  refine vx_widen (k := 1) (n := 6) (Nat.le_of_ble_eq_true rfl) (Nat.le_of_ble_eq_true rfl) ?_
  refine vx_catch hown [] ⟨0, 10, 13, 19⟩ [⟨0, 10, 16, 21⟩] htab (fun z hz => by simp at hz) (by decide) (by decide) (hts (.classLink RL 19 "java/lang/IllegalArgumentException") (by decide +kernel)) (va_Nw.use rfl (ns_f11 hF)) hc1 hc2 hc3 ?_
  refine W.eq (g2 := F0 m 13 ls [.ref q9]) rfl ?_
  refine lv_astore_n (lv' := [(3, .ref q9), (0, .ref h0), (1, .int x0), (2, .ref h1)]) hx hb dL_mark_13 rfl hl (by decide) rfl (fun ls hl => ?_)
  refine lv_iconst (v := 1) hx hb dL_mark_14 (by decide) ?_
  have hP9 := hP.sub (ws' := [(h0, .inr (16, [v0, v1, v2, v3, v4, v5, v6, v7, v8, v9, v10, v11, v12, v13, v14, v15]))]) [0] rfl
  have hD9 := hD.sub (ws' := [(h0, .inr (16, [v0, v1, v2, v3, v4, v5, v6, v7, v8, v9, v10, v11, v12, v13, v14, v15]))]) [0] (by decide) rfl
  have hK9 := hK.sub (tys' := []) [] rfl
  refine W.widen (k := 1) (n := 6) (Nat.le_of_ble_eq_true rfl) (Nat.le_of_ble_eq_true rfl) ?_
  exact W.iret (v := 1) hx hb hr (fun t ht hW => ⟨⟨_, (), rfl, rfl, by rw [ht]; exact hP9, va_K.moved hW.alike hK9, hD9⟩, hS.F ht⟩) hS.2.2 dL_mark_15
set_option maxHeartbeats 4000000 in
set_option maxRecDepth 100000 in
theorem kX16_isIn_7 (l : Launch) (dC : Nat → ClassId) (dI : Nat → Nat → Nat) (g : Nat → Nat) (sz : Nat) (x0 : Int32) (ex0 : (5 : Int) ≤ x0.toInt ∧ x0.toInt ≤ (2147483647 : Int)) : Met l yX16_isIn wsX16_isIn ({ frames := 0, cells := 0, slots := 0, locals := 0 }) (va_Pc [.int x0, .int 1, .int 4] (fun U => U.heap.size = sz ∧ va_P (dC, dI) vwCl [] U.heap ∧ va_K (dC, dI) vwCl [] U ∧ va_D (fun _ => True) [] ∧ ns_F g (va_A [] sz) U U.heap)) (va_Qi (fun (r : Int32) (_ : Unit) => r = 0) (fun _ t => va_P (dC, dI) vwCl [] t.heap ∧ va_K (dC, dI) vwCl [] t ∧ va_D (va_A [] sz) []) (va_A [] sz)) 0 0 (va_A [] sz) := by
  refine Met.ofW (cc := cX16_isIn) (maxL := 3) (ret := (some .boolean)) (by decide) rfl ?_
  intro p e s m args below meth c s₁ B hml hv
  obtain ⟨rfl, hsz, hP, hK, hD0, hF⟩ := hv
  have hx := B.exec
  have hb := B.bytes
  have hr := B.returns
  have hts := atoms_spec (ws := wsX16_isIn) B.pre
  have hown : s.vm.findClass RX16 = some m.cls := findClass_of_methodNamed B.named
  have hlocks := B.notSynchronized
  subst hsz
  have hD := hD0.self (sz := s.heap.size)
  generalize hAe : va_A [] s.heap.size = A at hD hF ⊢
  have hA : ∀ q : Nat, s.heap.size ≤ q → A q := fun q h => by rw [← hAe]; exact Or.inr h
  have hS : va_S A s.heap s.heap [] := va_S.rf
  have hP : va_P (dC, dI) vwCl [] s.heap := hP
  have hl := lv_entry ([.int x0, .int 1, .int 4]) (n := 3) (Nat.le_of_ble_eq_true rfl)
  rw [lg_entry_eq]
  generalize (lg_sl ([.int x0, .int 1, .int 4]) ++ List.replicate (3 - (lg_sl ([.int x0, .int 1, .int 4])).length) Slot.unset).toArray = ls at hl ⊢
  have hl : lv_has ls 3 [(0, .int x0), (1, .int 1), (2, .int 4)] := hl
  refine lv_iload_n hx hb dX16_isIn_0 rfl (lv_at hl 0 rfl) ?_
  refine lv_iload_n hx hb dX16_isIn_1 rfl (lv_at hl 1 rfl) ?_
  refine lv_icmp_lt (tgt := 14) hx hb dX16_isIn_2 (by decide) (fun c1 => absurd c1 (fun z => absurd (Int32.lt_iff_toInt_lt.mp z : x0.toInt < (1 : Int)) (by omega))) (fun c1 => ?_)
  refine lv_iload_n hx hb dX16_isIn_5 rfl (lv_at hl 0 rfl) ?_
  refine lv_iload_n hx hb dX16_isIn_6 rfl (lv_at hl 2 rfl) ?_
  refine lv_icmp_gt (tgt := 14) hx hb dX16_isIn_7 (by decide) (fun c2 => ?_) (fun c2 => absurd (Int32.lt_iff_toInt_lt.mpr (show (4 : Int) < x0.toInt by omega)) c2)
  refine lv_iconst (v := 0) hx hb dX16_isIn_14 (by decide) ?_
  have hP9 := hP.sub (ws' := []) [] rfl
  have hD9 := hD.sub (ws' := []) [] (by decide) rfl
  have hK9 := hK.sub (tys' := []) [] rfl
  refine W.widen (k := 0) (n := 0) (Nat.le_of_ble_eq_true rfl) (Nat.le_of_ble_eq_true rfl) ?_
  exact W.zret (v := 0) hx hb hr (by decide) (fun t ht hW => ⟨⟨_, (), rfl, rfl, by rw [ht]; exact hP9, va_K.moved hW.alike hK9, hD9⟩, hS.F ht⟩) hS.2.2 dX16_isIn_15
set_option maxHeartbeats 4000000 in
set_option maxRecDepth 100000 in
theorem kX16_mark_3 (l : Launch) (dC : Nat → ClassId) (dI : Nat → Nat → Nat) (g : Nat → Nat) (sz : Nat) (h0 : Nat) (x0 : Int32) (v0 : Value) (v1 : Value) (v2 : Value) (v3 : Value) (v4 : Value) (v5 : Value) (v6 : Value) (v7 : Value) (v8 : Value) (ex0 : (5 : Int) ≤ x0.toInt ∧ x0.toInt ≤ (2147483647 : Int)) : Met l yX16_mark wsX16_mark ({ frames := 2, cells := 0, slots := 0, locals := 44 }) (va_Pc [.ref h0, .int x0] (fun U => U.heap.size = sz ∧ va_P (dC, dI) vwCl [(h0, .inr (23, [v0, v1, v2, v3, v4, v5, v6, v7, v8]))] U.heap ∧ va_K (dC, dI) vwCl [] U ∧ va_D (fun _ => True) [(h0, .inr (23, [v0, v1, v2, v3, v4, v5, v6, v7, v8]))] ∧ ns_F g (va_A [(h0, .inr (23, [v0, v1, v2, v3, v4, v5, v6, v7, v8]))] sz) U U.heap)) (va_Qi (fun (r : Int32) (_ : Unit) => r = 0) (fun _ t => va_P (dC, dI) vwCl [(h0, .inr (23, [.int 1, v1, v2, v3, v4, v5, v6, v7, v8]))] t.heap ∧ va_K (dC, dI) vwCl [] t ∧ va_D (va_A [(h0, .inr (23, [v0, v1, v2, v3, v4, v5, v6, v7, v8]))] sz) [(h0, .inr (23, [.int 1, v1, v2, v3, v4, v5, v6, v7, v8]))]) (va_A [(h0, .inr (23, [v0, v1, v2, v3, v4, v5, v6, v7, v8]))] sz)) 0 0 (va_A [(h0, .inr (23, [v0, v1, v2, v3, v4, v5, v6, v7, v8]))] sz) := by
  refine Met.ofW (cc := cX16_mark) (maxL := 2) (ret := (some .int)) (by decide) rfl ?_
  intro p e s m args below meth c s₁ B hml hv
  obtain ⟨rfl, hsz, hP, hK, hD0, hF⟩ := hv
  have hx := B.exec
  have hb := B.bytes
  have hr := B.returns
  have hts := atoms_spec (ws := wsX16_mark) B.pre
  have hown : s.vm.findClass RX16 = some m.cls := findClass_of_methodNamed B.named
  have hlocks := B.notSynchronized
  subst hsz
  have hD := hD0.self (sz := s.heap.size)
  generalize hAe : va_A [(h0, .inr (23, [v0, v1, v2, v3, v4, v5, v6, v7, v8]))] s.heap.size = A at hD hF ⊢
  have hA : ∀ q : Nat, s.heap.size ≤ q → A q := fun q h => by rw [← hAe]; exact Or.inr h
  have hS : va_S A s.heap s.heap [] := va_S.rf
  have hP : va_P (dC, dI) vwCl [(h0, .inr (23, [v0, v1, v2, v3, v4, v5, v6, v7, v8]))] s.heap := hP
  have hl := lv_entry ([.ref h0, .int x0]) (n := 2) (Nat.le_of_ble_eq_true rfl)
  rw [lg_entry_eq]
  generalize (lg_sl ([.ref h0, .int x0]) ++ List.replicate (2 - (lg_sl ([.ref h0, .int x0])).length) Slot.unset).toArray = ls at hl ⊢
  have hl : lv_has ls 2 [(0, .ref h0), (1, .int x0)] := hl
  refine lv_aload_n hx hb dX16_mark_0 rfl (lv_at hl 0 rfl) ?_
  refine lv_iload_n hx hb dX16_mark_1 rfl (lv_at hl 1 rfl) ?_
  refine lv_iconst (v := 1) hx hb dX16_mark_2 (by decide) ?_
  refine lv_iconst (v := 4) hx hb dX16_mark_3 (by decide) ?_
  have hPc := hP.sub (ws' := []) [] rfl
  have hDc := hD.sub (ws' := []) [] (by decide) rfl
  have hKc := hK.sub (tys' := []) [] rfl
  have hFc := va_free (wc := []) hD hS hA [] rfl
  refine va_calli (va_runS (As := [.int x0, .int 1, .int 4]) (rest := [.ref h0]) ⟨hx, hb, hml, hown, hts⟩ (kX16_isIn_7 l dC dI g s.heap.size x0 ⟨by omega, by omega⟩) (va_cwS 3 hts gX16_mark_X16_isIn rfl rfl rfl (by decide +kernel) ⟨Nat.le_of_ble_eq_true rfl, Nat.le_of_ble_eq_true rfl⟩) ⟨fun a U gg mk q => by obtain ⟨q0, q1, qP, qK, qD, qF⟩ := q; exact ⟨q0, q1, qP, va_K.moved (u := U) (U := U.calling gg mk a) (Vm.Alike.refl U.vm) qK, qD, ns_same qF⟩, fun U hU hW => ⟨rfl, by rw [hU], by rw [hU]; exact hPc, va_K.moved hW.alike hKc, hDc.weaken (fun _ _ _ _ => trivial), ns_call hF hS hFc hU hW⟩⟩ rfl rfl hl.1 rfl (lv_room (Nat.le_of_ble_eq_true rfl)) dX16_mark_4 ⟨Nat.le_of_ble_eq_true rfl, Nat.le_of_ble_eq_true rfl⟩) hS (fun q _ h => hFc q h) hFc (fun r9 u t H1 locs ht hvm hw hB hz1 hk1 hS => ?_)
  obtain rfl := hw
  obtain ⟨hP1, hK1, hD1⟩ := hB
  rw [ht] at hP1
  have hK1 := va_K.moved hvm.symm hK1
  obtain ⟨hP, hD⟩ := va_join (wr := [(h0, .inr (23, [v0, v1, v2, v3, v4, v5, v6, v7, v8]))]) (w1 := []) hP hD [] [0] rfl rfl (by decide) (by decide) hk1 hFc hP1 hD1
  have hK := (hK.sub (tys' := []) [] rfl).app hK1
  generalize H1 = H at hP hS ⊢
  have hP : va_P (dC, dI) vwCl [(h0, .inr (23, [v0, v1, v2, v3, v4, v5, v6, v7, v8]))] H := hP
  have hD : va_D A [(h0, .inr (23, [v0, v1, v2, v3, v4, v5, v6, v7, v8]))] := hD
  have hK : va_K (dC, dI) vwCl [] s := hK
  refine W.widen (k := 0) (n := 0) (Nat.le_of_ble_eq_true rfl) (Nat.le_of_ble_eq_true rfl) ?_
  refine lv_if_ne (tgt := 14) hx hb dX16_mark_7 (by decide) (fun c1 => absurd (by decide) c1) (fun c1 => ?_)
  refine lv_iconst (v := 1) hx hb dX16_mark_10 (by decide) ?_
  refine lv_goto (tgt := 15) hx hb dX16_mark_11 (by decide) ?_
  refine lv_iconst (v := 1) hx hb dX16_mark_15 (by decide) ?_
  have hPc := hP.sub (ws' := [(h0, .inr (23, [v0, v1, v2, v3, v4, v5, v6, v7, v8]))]) [0] rfl
  have hDc := hD.sub (ws' := [(h0, .inr (23, [v0, v1, v2, v3, v4, v5, v6, v7, v8]))]) [0] (by decide) rfl
  have hKc := hK.sub (tys' := []) [] rfl
  have hFc := va_free (wc := [(h0, .inr (23, [v0, v1, v2, v3, v4, v5, v6, v7, v8]))]) hD hS hA [0] rfl
  refine va_calli (va_runV (As := [.int 1, .int 1]) (rest := []) ⟨hx, hb, hml, hown, hts⟩ (kX16_start l dC dI g H.size h0 v0 v1 v2 v3 v4 v5 v6 v7 v8 ) (cwV 2 hts gX16_mark_X16_start rfl rfl rfl (by decide +kernel) ⟨Nat.le_of_ble_eq_true rfl, Nat.le_of_ble_eq_true rfl⟩) ⟨fun a U gg mk q => by obtain ⟨q0, q1, qP, qK, qD, qF⟩ := q; exact ⟨q0, q1, qP, va_K.moved (u := U) (U := U.calling gg mk a) (Vm.Alike.refl U.vm) qK, qD, ns_same qF⟩, va_recv hK hP (ci := 23) (q0 := 0) rfl rfl, fun U hU hW => ⟨rfl, by rw [hU], by rw [hU]; exact hPc, va_K.moved hW.alike hKc, hDc.weaken (fun _ _ _ _ => trivial), ns_call hF hS hFc hU hW⟩⟩ rfl rfl hl.1 rfl (lv_room (Nat.le_of_ble_eq_true rfl)) dX16_mark_16 ⟨Nat.le_of_ble_eq_true rfl, Nat.le_of_ble_eq_true rfl⟩) hS (fun q _ h => hFc q h) hFc (fun r9 u t H1 locs ht hvm hw hB hz1 hk1 hS => ?_)
  obtain rfl := hw
  obtain ⟨hP1, hK1, hD1⟩ := hB
  rw [ht] at hP1
  have hK1 := va_K.moved hvm.symm hK1
  obtain ⟨hP, hD⟩ := va_join (wr := []) (w1 := [(h0, .inr (23, [.int 1, v1, v2, v3, v4, v5, v6, v7, v8]))]) hP hD [0] [] rfl rfl (by decide) (by decide) hk1 hFc hP1 hD1
  have hK := (hK.sub (tys' := []) [] rfl).app hK1
  generalize H1 = H at hP hS ⊢
  have hP : va_P (dC, dI) vwCl [(h0, .inr (23, [.int 1, v1, v2, v3, v4, v5, v6, v7, v8]))] H := hP
  have hD : va_D A [(h0, .inr (23, [.int 1, v1, v2, v3, v4, v5, v6, v7, v8]))] := hD
  have hK : va_K (dC, dI) vwCl [] s := hK
  refine W.widen (k := 0) (n := 0) (Nat.le_of_ble_eq_true rfl) (Nat.le_of_ble_eq_true rfl) ?_
  refine lv_if_ne (tgt := 34) hx hb dX16_mark_19 (by decide) (fun c2 => ?_) (fun c2 => absurd c2 (by decide))
  refine lv_iconst (v := 0) hx hb dX16_mark_34 (by decide) ?_
  refine lv_goto (tgt := 53) hx hb dX16_mark_35 (by decide) ?_
  have hP9 := hP.sub (ws' := [(h0, .inr (23, [.int 1, v1, v2, v3, v4, v5, v6, v7, v8]))]) [0] rfl
  have hD9 := hD.sub (ws' := [(h0, .inr (23, [.int 1, v1, v2, v3, v4, v5, v6, v7, v8]))]) [0] (by decide) rfl
  have hK9 := hK.sub (tys' := []) [] rfl
  refine W.widen (k := 0) (n := 0) (Nat.le_of_ble_eq_true rfl) (Nat.le_of_ble_eq_true rfl) ?_
  exact W.iret (v := 0) hx hb hr (fun t ht hW => ⟨⟨_, (), rfl, rfl, by rw [ht]; exact hP9, va_K.moved hW.alike hK9, hD9⟩, hS.F ht⟩) hS.2.2 dX16_mark_53
set_option maxHeartbeats 4000000 in
set_option maxRecDepth 100000 in
theorem kX3_has (l : Launch) (dC : Nat → ClassId) (dI : Nat → Nat → Nat) (g : Nat → Nat) (sz : Nat) (h0 : Nat) (x0 : Int32) (h1 : Nat) (v0 : Value) (v1 : Value) (v2 : Value) (v3 : Value) (v4 : Value) (v5 : Value) (v6 : Value) (v7 : Value) (v8 : Value) : Met l yX3_has wsX3_has ({ frames := 1, cells := 0, slots := 0, locals := 20 }) (va_Pc [.ref h0, .int x0] (fun U => U.heap.size = sz ∧ va_P (dC, dI) vwCl [(h0, .inr (10, [.ref h1, v0, v1, v2, v3, v4, v5, v6, v7])), (h1, .inr (11, [v8, .int 0]))] U.heap ∧ va_K (dC, dI) vwCl [] U ∧ va_D (fun _ => True) [(h0, .inr (10, [.ref h1, v0, v1, v2, v3, v4, v5, v6, v7])), (h1, .inr (11, [v8, .int 0]))] ∧ ns_F g (va_A [(h0, .inr (10, [.ref h1, v0, v1, v2, v3, v4, v5, v6, v7])), (h1, .inr (11, [v8, .int 0]))] sz) U U.heap)) (va_Qi (fun (r : Int32) (_ : Unit) => r = 0) (fun _ t => va_P (dC, dI) vwCl [(h0, .inr (10, [.ref h1, v0, v1, v2, v3, v4, v5, v6, v7])), (h1, .inr (11, [v8, .int 0]))] t.heap ∧ va_K (dC, dI) vwCl [] t ∧ va_D (va_A [(h0, .inr (10, [.ref h1, v0, v1, v2, v3, v4, v5, v6, v7])), (h1, .inr (11, [v8, .int 0]))] sz) [(h0, .inr (10, [.ref h1, v0, v1, v2, v3, v4, v5, v6, v7])), (h1, .inr (11, [v8, .int 0]))]) (va_A [(h0, .inr (10, [.ref h1, v0, v1, v2, v3, v4, v5, v6, v7])), (h1, .inr (11, [v8, .int 0]))] sz)) 0 0 (va_A [(h0, .inr (10, [.ref h1, v0, v1, v2, v3, v4, v5, v6, v7])), (h1, .inr (11, [v8, .int 0]))] sz) := by
  refine Met.ofW (cc := cX3_has) (maxL := 2) (ret := (some .boolean)) (by decide) rfl ?_
  intro p e s m args below meth c s₁ B hml hv
  obtain ⟨rfl, hsz, hP, hK, hD0, hF⟩ := hv
  have hx := B.exec
  have hb := B.bytes
  have hr := B.returns
  have hts := atoms_spec (ws := wsX3_has) B.pre
  have hown : s.vm.findClass RX3 = some m.cls := findClass_of_methodNamed B.named
  have hlocks := B.notSynchronized
  subst hsz
  have hD := hD0.self (sz := s.heap.size)
  generalize hAe : va_A [(h0, .inr (10, [.ref h1, v0, v1, v2, v3, v4, v5, v6, v7])), (h1, .inr (11, [v8, .int 0]))] s.heap.size = A at hD hF ⊢
  have hA : ∀ q : Nat, s.heap.size ≤ q → A q := fun q h => by rw [← hAe]; exact Or.inr h
  have hS : va_S A s.heap s.heap [] := va_S.rf
  have hP : va_P (dC, dI) vwCl [(h0, .inr (10, [.ref h1, v0, v1, v2, v3, v4, v5, v6, v7])), (h1, .inr (11, [v8, .int 0]))] s.heap := hP
  have hl := lv_entry ([.ref h0, .int x0]) (n := 2) (Nat.le_of_ble_eq_true rfl)
  rw [lg_entry_eq]
  generalize (lg_sl ([.ref h0, .int x0]) ++ List.replicate (2 - (lg_sl ([.ref h0, .int x0])).length) Slot.unset).toArray = ls at hl ⊢
  have hl : lv_has ls 2 [(0, .ref h0), (1, .int x0)] := hl
  refine lv_iload_n hx hb dX3_has_0 rfl (lv_at hl 1 rfl) ?_
  refine lv_if_lt (tgt := 19) hx hb dX3_has_1 (by decide) (fun c1 => ?_) (fun c1 => ?_)
  · have ec1 : x0.toInt < (0 : Int) := Int32.lt_iff_toInt_lt.mp c1
    refine lv_iconst (v := 0) hx hb dX3_has_19 (by decide) ?_
    have hP9 := hP.sub (ws' := [(h0, .inr (10, [.ref h1, v0, v1, v2, v3, v4, v5, v6, v7])), (h1, .inr (11, [v8, .int 0]))]) [0, 1] rfl
    have hD9 := hD.sub (ws' := [(h0, .inr (10, [.ref h1, v0, v1, v2, v3, v4, v5, v6, v7])), (h1, .inr (11, [v8, .int 0]))]) [0, 1] (by decide) rfl
    have hK9 := hK.sub (tys' := []) [] rfl
    refine W.widen (k := 0) (n := 0) (Nat.le_of_ble_eq_true rfl) (Nat.le_of_ble_eq_true rfl) ?_
    exact W.zret (v := 0) hx hb hr (by decide) (fun t ht hW => ⟨⟨_, (), rfl, rfl, by rw [ht]; exact hP9, va_K.moved hW.alike hK9, hD9⟩, hS.F ht⟩) hS.2.2 dX3_has_20
  · have ec1 : ¬ x0.toInt < (0 : Int) := fun z => c1 (Int32.lt_iff_toInt_lt.mpr z)
    refine lv_iload_n hx hb dX3_has_4 rfl (lv_at hl 1 rfl) ?_
    refine lv_aload_n hx hb dX3_has_5 rfl (lv_at hl 0 rfl) ?_
    refine va_get (D := (dC, dI)) (ci := 10) (v := .ref h1) (C := RX3) (T := TX3) (N := 9) hx hb hts (by decide +kernel) hown hK hP 0 rfl rfl 0 (by decide) (hts (.fieldLink RX3 14 "Nestprint$Nodes" "numbers" "LNestprint$Row;") (by decide +kernel)) (fun _ h9 => h9) rfl dX3_has_6 ?_
    have hPc := hP.sub (ws' := [(h1, .inr (11, [v8, .int 0]))]) [1] rfl
    have hDc := hD.sub (ws' := [(h1, .inr (11, [v8, .int 0]))]) [1] (by decide) rfl
    have hKc := hK.sub (tys' := []) [] rfl
    have hFc := va_free (wc := [(h1, .inr (11, [v8, .int 0]))]) hD hS hA [1] rfl
    refine va_calli (va_runV (As := []) (rest := [.int x0]) ⟨hx, hb, hml, hown, hts⟩ (kX4_size l dC dI g s.heap.size h1 v8 ) (cwV 0 hts gX3_has_X4_size rfl rfl rfl (by decide +kernel) ⟨Nat.le_of_ble_eq_true rfl, Nat.le_of_ble_eq_true rfl⟩) ⟨fun a U gg mk q => by obtain ⟨q0, q1, qP, qK, qD, qF⟩ := q; exact ⟨q0, q1, qP, va_K.moved (u := U) (U := U.calling gg mk a) (Vm.Alike.refl U.vm) qK, qD, ns_same qF⟩, va_recv hK hP (ci := 11) (q0 := 1) rfl rfl, fun U hU hW => ⟨rfl, by rw [hU], by rw [hU]; exact hPc, va_K.moved hW.alike hKc, hDc.weaken (fun _ _ _ _ => trivial), ns_call hF hS hFc hU hW⟩⟩ rfl rfl hl.1 rfl (lv_room (Nat.le_of_ble_eq_true rfl)) dX3_has_9 ⟨Nat.le_of_ble_eq_true rfl, Nat.le_of_ble_eq_true rfl⟩) hS (fun q _ h => hFc q h) hFc (fun r9 u t H1 locs ht hvm hw hB hz1 hk1 hS => ?_)
    obtain rfl := hw
    obtain ⟨hP1, hK1, hD1⟩ := hB
    rw [ht] at hP1
    have hK1 := va_K.moved hvm.symm hK1
    obtain ⟨hP, hD⟩ := va_join (wr := [(h0, .inr (10, [.ref h1, v0, v1, v2, v3, v4, v5, v6, v7]))]) (w1 := [(h1, .inr (11, [v8, .int 0]))]) hP hD [1] [0] rfl rfl (by decide) (by decide) hk1 hFc hP1 hD1
    have hK := (hK.sub (tys' := []) [] rfl).app hK1
    generalize H1 = H at hP hS ⊢
    have hP : va_P (dC, dI) vwCl [(h0, .inr (10, [.ref h1, v0, v1, v2, v3, v4, v5, v6, v7])), (h1, .inr (11, [v8, .int 0]))] H := hP
    have hD : va_D A [(h0, .inr (10, [.ref h1, v0, v1, v2, v3, v4, v5, v6, v7])), (h1, .inr (11, [v8, .int 0]))] := hD
    have hK : va_K (dC, dI) vwCl [] s := hK
    refine W.widen (k := 0) (n := 0) (Nat.le_of_ble_eq_true rfl) (Nat.le_of_ble_eq_true rfl) ?_
    refine lv_icmp_ge (tgt := 19) hx hb dX3_has_12 (by decide) (fun c2 => ?_) (fun c2 => absurd (Int32.le_iff_toInt_le.mpr (show (0 : Int) ≤ x0.toInt by omega)) c2)
    refine lv_iconst (v := 0) hx hb dX3_has_19 (by decide) ?_
    have hP9 := hP.sub (ws' := [(h0, .inr (10, [.ref h1, v0, v1, v2, v3, v4, v5, v6, v7])), (h1, .inr (11, [v8, .int 0]))]) [0, 1] rfl
    have hD9 := hD.sub (ws' := [(h0, .inr (10, [.ref h1, v0, v1, v2, v3, v4, v5, v6, v7])), (h1, .inr (11, [v8, .int 0]))]) [0, 1] (by decide) rfl
    have hK9 := hK.sub (tys' := []) [] rfl
    refine W.widen (k := 0) (n := 0) (Nat.le_of_ble_eq_true rfl) (Nat.le_of_ble_eq_true rfl) ?_
    exact W.zret (v := 0) hx hb hr (by decide) (fun t ht hW => ⟨⟨_, (), rfl, rfl, by rw [ht]; exact hP9, va_K.moved hW.alike hK9, hD9⟩, hS.F ht⟩) hS.2.2 dX3_has_20
set_option maxHeartbeats 4000000 in
set_option maxRecDepth 100000 in
theorem kX9_needNode (l : Launch) (dC : Nat → ClassId) (dI : Nat → Nat → Nat) (g : Nat → Nat) (sz : Nat) (h0 : Nat) (x0 : Int32) (h1 : Nat) (h2 : Nat) (v0 : Value) (v1 : Value) (v2 : Value) (v3 : Value) (v4 : Value) (v5 : Value) (v6 : Value) (v7 : Value) (v8 : Value) (v9 : Value) (v10 : Value) (v11 : Value) (v12 : Value) (v13 : Value) (v14 : Value) (v15 : Value) (v16 : Value) (v17 : Value) (v18 : Value) (v19 : Value) (v20 : Value) (v21 : Value) (v22 : Value) (v23 : Value) (hlt : l.stackTraces = false) : vx_Met l yX9_needNode wsX9_needNode ({ frames := 6, cells := 1, slots := 6, locals := 82 }) (va_Pc [.ref h0, .int x0] (fun U => U.heap.size = sz ∧ va_P (dC, dI) vwCl [(h0, .inr (16, [.ref h1, v0, v1, v2, v3, v4, v5, v6, v7, v8, v9, v10, v11, v12, v13, v14])), (h1, .inr (10, [.ref h2, v15, v16, v17, v18, v19, v20, v21, v22])), (h2, .inr (11, [v23, .int 0]))] U.heap ∧ va_K (dC, dI) vwCl [] U ∧ va_D (fun _ => True) [(h0, .inr (16, [.ref h1, v0, v1, v2, v3, v4, v5, v6, v7, v8, v9, v10, v11, v12, v13, v14])), (h1, .inr (10, [.ref h2, v15, v16, v17, v18, v19, v20, v21, v22])), (h2, .inr (11, [v23, .int 0]))] ∧ ns_F g (va_A [(h0, .inr (16, [.ref h1, v0, v1, v2, v3, v4, v5, v6, v7, v8, v9, v10, v11, v12, v13, v14])), (h1, .inr (10, [.ref h2, v15, v16, v17, v18, v19, v20, v21, v22])), (h2, .inr (11, [v23, .int 0]))] sz) U U.heap)) (va_Qv (fun _ : Unit => False) (fun _ _ => True) (va_A [(h0, .inr (16, [.ref h1, v0, v1, v2, v3, v4, v5, v6, v7, v8, v9, v10, v11, v12, v13, v14])), (h1, .inr (10, [.ref h2, v15, v16, v17, v18, v19, v20, v21, v22])), (h2, .inr (11, [v23, .int 0]))] sz)) (vx_X (fun _ : Unit => True) (fun E _ _ => E = "java/lang/IndexOutOfBoundsException") (va_A [(h0, .inr (16, [.ref h1, v0, v1, v2, v3, v4, v5, v6, v7, v8, v9, v10, v11, v12, v13, v14])), (h1, .inr (10, [.ref h2, v15, v16, v17, v18, v19, v20, v21, v22])), (h2, .inr (11, [v23, .int 0]))] sz)) 1 6 (va_A [(h0, .inr (16, [.ref h1, v0, v1, v2, v3, v4, v5, v6, v7, v8, v9, v10, v11, v12, v13, v14])), (h1, .inr (10, [.ref h2, v15, v16, v17, v18, v19, v20, v21, v22])), (h2, .inr (11, [v23, .int 0]))] sz) := by
  refine vx_ofW (cc := cX9_needNode) (maxL := 2) (ret := none) (by decide) rfl ?_
  intro p e s m args below meth c s₁ B hml hnox hv
  obtain ⟨rfl, hsz, hP, hK, hD0, hF⟩ := hv
  have hx := B.exec
  have hb := B.bytes
  have hr := B.returns
  have hts := atoms_spec (ws := wsX9_needNode) B.pre
  have hown : s.vm.findClass RX9 = some m.cls := findClass_of_methodNamed B.named
  have hlocks := B.notSynchronized
  subst hsz
  have hD := hD0.self (sz := s.heap.size)
  generalize hAe : va_A [(h0, .inr (16, [.ref h1, v0, v1, v2, v3, v4, v5, v6, v7, v8, v9, v10, v11, v12, v13, v14])), (h1, .inr (10, [.ref h2, v15, v16, v17, v18, v19, v20, v21, v22])), (h2, .inr (11, [v23, .int 0]))] s.heap.size = A at hD hF ⊢
  have hA : ∀ q : Nat, s.heap.size ≤ q → A q := fun q h => by rw [← hAe]; exact Or.inr h
  have hS : va_S A s.heap s.heap [] := va_S.rf
  have hP : va_P (dC, dI) vwCl [(h0, .inr (16, [.ref h1, v0, v1, v2, v3, v4, v5, v6, v7, v8, v9, v10, v11, v12, v13, v14])), (h1, .inr (10, [.ref h2, v15, v16, v17, v18, v19, v20, v21, v22])), (h2, .inr (11, [v23, .int 0]))] s.heap := hP
  have hl := lv_entry ([.ref h0, .int x0]) (n := 2) (Nat.le_of_ble_eq_true rfl)
  rw [lg_entry_eq]
  generalize (lg_sl ([.ref h0, .int x0]) ++ List.replicate (2 - (lg_sl ([.ref h0, .int x0])).length) Slot.unset).toArray = ls at hl ⊢
  have hl : lv_has ls 2 [(0, .ref h0), (1, .int x0)] := hl
  refine lv_aload_n hx hb dX9_needNode_0 rfl (lv_at hl 0 rfl) ?_
  refine va_get (D := (dC, dI)) (ci := 16) (v := .ref h1) (C := RX9) (T := TX9) (N := 16) hx hb hts (by decide +kernel) hown hK hP 0 rfl rfl 0 (by decide) (hts (.fieldLink RX9 12 "Nestprint" "nodes" "LNestprint$Nodes;") (by decide +kernel)) (fun _ h9 => h9) rfl dX9_needNode_1 ?_
  refine lv_iload_n hx hb dX9_needNode_4 rfl (lv_at hl 1 rfl) ?_
  have hPc := hP.sub (ws' := [(h1, .inr (10, [.ref h2, v15, v16, v17, v18, v19, v20, v21, v22])), (h2, .inr (11, [v23, .int 0]))]) [1, 2] rfl
  have hDc := hD.sub (ws' := [(h1, .inr (10, [.ref h2, v15, v16, v17, v18, v19, v20, v21, v22])), (h2, .inr (11, [v23, .int 0]))]) [1, 2] (by decide) rfl
  have hKc := hK.sub (tys' := []) [] rfl
  have hFc := va_free (wc := [(h1, .inr (10, [.ref h2, v15, v16, v17, v18, v19, v20, v21, v22])), (h2, .inr (11, [v23, .int 0]))]) hD hS hA [1, 2] rfl
  refine va_calli (va_runV (As := [.int x0]) (rest := []) ⟨hx, hb, hml, hown, hts⟩ (kX3_has l dC dI g s.heap.size h1 x0 h2 v15 v16 v17 v18 v19 v20 v21 v22 v23 ) (cwV 1 hts gX9_needNode_X3_has rfl rfl rfl (by decide +kernel) ⟨Nat.le_of_ble_eq_true rfl, Nat.le_of_ble_eq_true rfl⟩) ⟨fun a U gg mk q => by obtain ⟨q0, q1, qP, qK, qD, qF⟩ := q; exact ⟨q0, q1, qP, va_K.moved (u := U) (U := U.calling gg mk a) (Vm.Alike.refl U.vm) qK, qD, ns_same qF⟩, va_recv hK hP (ci := 10) (q0 := 1) rfl rfl, fun U hU hW => ⟨rfl, by rw [hU], by rw [hU]; exact hPc, va_K.moved hW.alike hKc, hDc.weaken (fun _ _ _ _ => trivial), ns_call hF hS hFc hU hW⟩⟩ rfl rfl hl.1 rfl (lv_room (Nat.le_of_ble_eq_true rfl)) dX9_needNode_5 ⟨Nat.le_of_ble_eq_true rfl, Nat.le_of_ble_eq_true rfl⟩) hS (fun q _ h => hFc q h) hFc (fun r9 u t H1 locs ht hvm hw hB hz1 hk1 hS => ?_)
  obtain rfl := hw
  obtain ⟨hP1, hK1, hD1⟩ := hB
  rw [ht] at hP1
  have hK1 := va_K.moved hvm.symm hK1
  obtain ⟨hP, hD⟩ := va_join (wr := [(h0, .inr (16, [.ref h1, v0, v1, v2, v3, v4, v5, v6, v7, v8, v9, v10, v11, v12, v13, v14]))]) (w1 := [(h1, .inr (10, [.ref h2, v15, v16, v17, v18, v19, v20, v21, v22])), (h2, .inr (11, [v23, .int 0]))]) hP hD [1, 2] [0] rfl rfl (by decide) (by decide) hk1 hFc hP1 hD1
  have hK := (hK.sub (tys' := []) [] rfl).app hK1
  generalize H1 = H at hP hS ⊢
  have hP : va_P (dC, dI) vwCl [(h0, .inr (16, [.ref h1, v0, v1, v2, v3, v4, v5, v6, v7, v8, v9, v10, v11, v12, v13, v14])), (h1, .inr (10, [.ref h2, v15, v16, v17, v18, v19, v20, v21, v22])), (h2, .inr (11, [v23, .int 0]))] H := hP
  have hD : va_D A [(h0, .inr (16, [.ref h1, v0, v1, v2, v3, v4, v5, v6, v7, v8, v9, v10, v11, v12, v13, v14])), (h1, .inr (10, [.ref h2, v15, v16, v17, v18, v19, v20, v21, v22])), (h2, .inr (11, [v23, .int 0]))] := hD
  have hK : va_K (dC, dI) vwCl [] s := hK
  refine W.widen (k := 0) (n := 0) (Nat.le_of_ble_eq_true rfl) (Nat.le_of_ble_eq_true rfl) ?_
  refine lv_if_ne (tgt := 22) hx hb dX9_needNode_8 (by decide) (fun c1 => absurd (by decide) c1) (fun c1 => ?_)
  exact vx_throwSW hx hb hlt (text := "no such node") (sa := (g 24)) (names := ["java/lang/RuntimeException", "java/lang/Exception"]) hown (by decide) (by decide) (hts (.classLink RX9 344 "java/lang/IndexOutOfBoundsException") (by decide +kernel)) (hts (.initialized "java/lang/IndexOutOfBoundsException") (by decide +kernel)) (ns_f27 hF) (vx_hat (B := [.declares ⟨"java/lang/RuntimeException", "<init>", "(Ljava/lang/String;)V"⟩, .declares ⟨"java/lang/Exception", "<init>", "(Ljava/lang/String;)V"⟩, .declares ⟨"java/lang/Throwable", "<init>", "(Ljava/lang/String;)V"⟩, .castable "java/lang/IndexOutOfBoundsException" "java/lang/IndexOutOfBoundsException"]) (fun w9 h9 => hts w9 (List.mem_cons_of_mem _ ((fun h9 => List.mem_append_right _ h9) h9))) (by decide +kernel) (vx_c (va_Nw.use rfl (ns_f12 hF)) (vx_c (va_Nw.use rfl (ns_f13 hF)) (vx_c (va_Nw.use rfl (ns_f14 hF)) (vx_c (va_Nw.use rfl (ns_f10 hF)) vx_n))))) (by decide +kernel) (ns_f17 hF) (ns_f18 hF) hS (by rw [hml]; exact hl.1) dX9_needNode_11 dX9_needNode_14 dX9_needNode_15 dX9_needNode_18 dX9_needNode_21 (fun x hx => (hnox x hx).elim) (Nat.le_of_ble_eq_true rfl) (Nat.le_of_ble_eq_true rfl) (Nat.le_of_ble_eq_true rfl) (Nat.le_of_ble_eq_true rfl) hlocks (fun t9 hal hsz9 hk9 => ⟨(), trivial, rfl, Nat.le_trans hS.1 hsz9, fun q hq1 hq2 => (hk9 q (Nat.lt_of_lt_of_le hq1 hS.1)).trans (hS.2.1 q hq1 hq2)⟩) hS.2.2 (Nat.le_of_ble_eq_true rfl) (Nat.le_of_ble_eq_true rfl)
set_option maxHeartbeats 4000000 in
set_option maxRecDepth 100000 in
theorem kX9_join (l : Launch) (dC : Nat → ClassId) (dI : Nat → Nat → Nat) (g : Nat → Nat) (sz : Nat) (h0 : Nat) (x0 : Int32) (x1 : Int32) (h1 : Nat) (h2 : Nat) (v0 : Value) (v1 : Value) (v2 : Value) (v3 : Value) (v4 : Value) (v5 : Value) (v6 : Value) (v7 : Value) (v8 : Value) (v9 : Value) (v10 : Value) (v11 : Value) (v12 : Value) (v13 : Value) (v14 : Value) (v15 : Value) (v16 : Value) (v17 : Value) (v18 : Value) (v19 : Value) (v20 : Value) (v21 : Value) (v22 : Value) (v23 : Value) (hlt : l.stackTraces = false) : vx_Met l yX9_join wsX9_join ({ frames := 7, cells := 1, slots := 6, locals := 103 }) (va_Pc [.ref h0, .int x0, .int x1] (fun U => U.heap.size = sz ∧ va_P (dC, dI) vwCl [(h0, .inr (16, [.ref h1, v0, v1, v2, v3, v4, v5, v6, v7, v8, v9, v10, v11, v12, v13, v14])), (h1, .inr (10, [.ref h2, v15, v16, v17, v18, v19, v20, v21, v22])), (h2, .inr (11, [v23, .int 0]))] U.heap ∧ va_K (dC, dI) vwCl [] U ∧ va_D (fun _ => True) [(h0, .inr (16, [.ref h1, v0, v1, v2, v3, v4, v5, v6, v7, v8, v9, v10, v11, v12, v13, v14])), (h1, .inr (10, [.ref h2, v15, v16, v17, v18, v19, v20, v21, v22])), (h2, .inr (11, [v23, .int 0]))] ∧ ns_F g (va_A [(h0, .inr (16, [.ref h1, v0, v1, v2, v3, v4, v5, v6, v7, v8, v9, v10, v11, v12, v13, v14])), (h1, .inr (10, [.ref h2, v15, v16, v17, v18, v19, v20, v21, v22])), (h2, .inr (11, [v23, .int 0]))] sz) U U.heap)) (va_Qv (fun _ : Unit => False) (fun _ _ => True) (va_A [(h0, .inr (16, [.ref h1, v0, v1, v2, v3, v4, v5, v6, v7, v8, v9, v10, v11, v12, v13, v14])), (h1, .inr (10, [.ref h2, v15, v16, v17, v18, v19, v20, v21, v22])), (h2, .inr (11, [v23, .int 0]))] sz)) (vx_X (fun _ : Unit => True) (fun E _ _ => E = "java/lang/IndexOutOfBoundsException") (va_A [(h0, .inr (16, [.ref h1, v0, v1, v2, v3, v4, v5, v6, v7, v8, v9, v10, v11, v12, v13, v14])), (h1, .inr (10, [.ref h2, v15, v16, v17, v18, v19, v20, v21, v22])), (h2, .inr (11, [v23, .int 0]))] sz)) 1 6 (va_A [(h0, .inr (16, [.ref h1, v0, v1, v2, v3, v4, v5, v6, v7, v8, v9, v10, v11, v12, v13, v14])), (h1, .inr (10, [.ref h2, v15, v16, v17, v18, v19, v20, v21, v22])), (h2, .inr (11, [v23, .int 0]))] sz) := by
  refine vx_ofW (cc := cX9_join) (maxL := 3) (ret := (some .int)) (by decide) rfl ?_
  intro p e s m args below meth c s₁ B hml hnox hv
  obtain ⟨rfl, hsz, hP, hK, hD0, hF⟩ := hv
  have hx := B.exec
  have hb := B.bytes
  have hr := B.returns
  have hts := atoms_spec (ws := wsX9_join) B.pre
  have hown : s.vm.findClass RX9 = some m.cls := findClass_of_methodNamed B.named
  have hlocks := B.notSynchronized
  subst hsz
  have hD := hD0.self (sz := s.heap.size)
  generalize hAe : va_A [(h0, .inr (16, [.ref h1, v0, v1, v2, v3, v4, v5, v6, v7, v8, v9, v10, v11, v12, v13, v14])), (h1, .inr (10, [.ref h2, v15, v16, v17, v18, v19, v20, v21, v22])), (h2, .inr (11, [v23, .int 0]))] s.heap.size = A at hD hF ⊢
  have hA : ∀ q : Nat, s.heap.size ≤ q → A q := fun q h => by rw [← hAe]; exact Or.inr h
  have hS : va_S A s.heap s.heap [] := va_S.rf
  have hP : va_P (dC, dI) vwCl [(h0, .inr (16, [.ref h1, v0, v1, v2, v3, v4, v5, v6, v7, v8, v9, v10, v11, v12, v13, v14])), (h1, .inr (10, [.ref h2, v15, v16, v17, v18, v19, v20, v21, v22])), (h2, .inr (11, [v23, .int 0]))] s.heap := hP
  have hl := lv_entry ([.ref h0, .int x0, .int x1]) (n := 3) (Nat.le_of_ble_eq_true rfl)
  rw [lg_entry_eq]
  generalize (lg_sl ([.ref h0, .int x0, .int x1]) ++ List.replicate (3 - (lg_sl ([.ref h0, .int x0, .int x1])).length) Slot.unset).toArray = ls at hl ⊢
  have hl : lv_has ls 3 [(0, .ref h0), (1, .int x0), (2, .int x1)] := hl
  refine lv_aload_n hx hb dX9_join_0 rfl (lv_at hl 0 rfl) ?_
  refine lv_iload_n hx hb dX9_join_1 rfl (lv_at hl 1 rfl) ?_
  have hPc := hP.sub (ws' := [(h0, .inr (16, [.ref h1, v0, v1, v2, v3, v4, v5, v6, v7, v8, v9, v10, v11, v12, v13, v14])), (h1, .inr (10, [.ref h2, v15, v16, v17, v18, v19, v20, v21, v22])), (h2, .inr (11, [v23, .int 0]))]) [0, 1, 2] rfl
  have hDc := hD.sub (ws' := [(h0, .inr (16, [.ref h1, v0, v1, v2, v3, v4, v5, v6, v7, v8, v9, v10, v11, v12, v13, v14])), (h1, .inr (10, [.ref h2, v15, v16, v17, v18, v19, v20, v21, v22])), (h2, .inr (11, [v23, .int 0]))]) [0, 1, 2] (by decide) rfl
  have hKc := hK.sub (tys' := []) [] rfl
  have hFc := va_free (wc := [(h0, .inr (16, [.ref h1, v0, v1, v2, v3, v4, v5, v6, v7, v8, v9, v10, v11, v12, v13, v14])), (h1, .inr (10, [.ref h2, v15, v16, v17, v18, v19, v20, v21, v22])), (h2, .inr (11, [v23, .int 0]))]) hD hS hA [0, 1, 2] rfl
  refine vx_callv (vx_runV (As := [.int x0]) (rest := []) ⟨hx, hb, hml, hown, hts⟩ (kX9_needNode l dC dI g s.heap.size h0 x0 h1 h2 v0 v1 v2 v3 v4 v5 v6 v7 v8 v9 v10 v11 v12 v13 v14 v15 v16 v17 v18 v19 v20 v21 v22 v23  hlt) (cwV 1 hts gX9_join_X9_needNode rfl rfl rfl (by decide +kernel) ⟨Nat.le_of_ble_eq_true rfl, Nat.le_of_ble_eq_true rfl⟩) ⟨fun a U gg mk q => by obtain ⟨q0, q1, qP, qK, qD, qF⟩ := q; exact ⟨q0, q1, qP, va_K.moved (u := U) (U := U.calling gg mk a) (Vm.Alike.refl U.vm) qK, qD, ns_same qF⟩, va_recv hK hP (ci := 16) (q0 := 0) rfl rfl, fun U hU hW => ⟨rfl, by rw [hU], by rw [hU]; exact hPc, va_K.moved hW.alike hKc, hDc.weaken (fun _ _ _ _ => trivial), ns_call hF hS hFc hU hW⟩⟩ rfl rfl hl.1 rfl (lv_room (Nat.le_of_ble_eq_true rfl)) dX9_join_2 ⟨Nat.le_of_ble_eq_true rfl, Nat.le_of_ble_eq_true rfl⟩) hS (fun q _ h => hFc q h) hFc (fun q _ h => hFc q h) (fun E ce q9 u t H1 locs ht hvm hw hB hz1 hk1 hS hc1 hc2 hc3 => ?_) (fun _ _ _ _ _ _ hw _ _ _ _ => False.elim hw)
  obtain rfl : E = "java/lang/IndexOutOfBoundsException" := hB
  exact vx_out (fun x hx => (hnox x hx).elim) hlocks hc1 hc2 hc3 (fun t9 ht9 hal => ⟨(), trivial, rfl, hS.F ht9⟩) hS.2.2 (Nat.le_of_ble_eq_true rfl) (Nat.le_of_ble_eq_true rfl)
set_option maxHeartbeats 4000000 in
set_option maxRecDepth 100000 in
theorem kL_join (l : Launch) (dC : Nat → ClassId) (dI : Nat → Nat → Nat) (g : Nat → Nat) (sz : Nat) (h0 : Nat) (x0 : Int32) (x1 : Int32) (h1 : Nat) (h2 : Nat) (h3 : Nat) (v0 : Value) (v1 : Value) (v2 : Value) (v3 : Value) (v4 : Value) (v5 : Value) (v6 : Value) (v7 : Value) (v8 : Value) (v9 : Value) (v10 : Value) (v11 : Value) (v12 : Value) (v13 : Value) (v14 : Value) (v15 : Value) (v16 : Value) (v17 : Value) (v18 : Value) (v19 : Value) (v20 : Value) (v21 : Value) (v22 : Value) (v23 : Value) (hlt : l.stackTraces = false) : Met l yL_join wsL_join ({ frames := 8, cells := 1, slots := 6, locals := 125 }) (va_Pc [.ref h0, .int x0, .int x1, .ref h1] (fun U => U.heap.size = sz ∧ va_P (dC, dI) vwCl [(h0, .inr (16, [.ref h2, v0, v1, v2, v3, v4, v5, v6, v7, v8, v9, v10, v11, v12, v13, v14])), (h2, .inr (10, [.ref h3, v15, v16, v17, v18, v19, v20, v21, v22])), (h3, .inr (11, [v23, .int 0]))] U.heap ∧ va_K (dC, dI) vwCl [] U ∧ va_D (fun _ => True) [(h0, .inr (16, [.ref h2, v0, v1, v2, v3, v4, v5, v6, v7, v8, v9, v10, v11, v12, v13, v14])), (h2, .inr (10, [.ref h3, v15, v16, v17, v18, v19, v20, v21, v22])), (h3, .inr (11, [v23, .int 0]))] ∧ ns_F g (va_A [(h0, .inr (16, [.ref h2, v0, v1, v2, v3, v4, v5, v6, v7, v8, v9, v10, v11, v12, v13, v14])), (h2, .inr (10, [.ref h3, v15, v16, v17, v18, v19, v20, v21, v22])), (h3, .inr (11, [v23, .int 0]))] sz) U U.heap)) (va_Qi (fun (r : Int32) (_ : Unit) => r = 1) (fun _ t => va_P (dC, dI) vwCl [] t.heap ∧ va_K (dC, dI) vwCl [] t ∧ va_D (va_A [(h0, .inr (16, [.ref h2, v0, v1, v2, v3, v4, v5, v6, v7, v8, v9, v10, v11, v12, v13, v14])), (h2, .inr (10, [.ref h3, v15, v16, v17, v18, v19, v20, v21, v22])), (h3, .inr (11, [v23, .int 0]))] sz) []) (va_A [(h0, .inr (16, [.ref h2, v0, v1, v2, v3, v4, v5, v6, v7, v8, v9, v10, v11, v12, v13, v14])), (h2, .inr (10, [.ref h3, v15, v16, v17, v18, v19, v20, v21, v22])), (h3, .inr (11, [v23, .int 0]))] sz)) 1 6 (va_A [(h0, .inr (16, [.ref h2, v0, v1, v2, v3, v4, v5, v6, v7, v8, v9, v10, v11, v12, v13, v14])), (h2, .inr (10, [.ref h3, v15, v16, v17, v18, v19, v20, v21, v22])), (h3, .inr (11, [v23, .int 0]))] sz) := by
  refine va_MetW (cc := cL_join) (maxL := 5) (ret := (some .int)) (hh := [(0, 11, 14, 30), (0, 11, 18, 21)]) (by decide) rfl ?_
  intro p e s m args below meth c s₁ B hml hv
  obtain ⟨rfl, hsz, hP, hK, hD0, hF⟩ := hv
  have hx := B.exec
  have hb := B.bytes
  have hr := B.returns
  have hts := atoms_spec (ws := wsL_join) B.pre
  have hown : s.vm.findClass RL = some m.cls := findClass_of_methodNamed B.named
  have hlocks := B.notSynchronized
  have htab : c.exceptionTable.toList = [⟨0, 11, 14, 30⟩, ⟨0, 11, 18, 21⟩] := vx_table B (hts _ List.mem_cons_self)
  subst hsz
  have hD := hD0.self (sz := s.heap.size)
  generalize hAe : va_A [(h0, .inr (16, [.ref h2, v0, v1, v2, v3, v4, v5, v6, v7, v8, v9, v10, v11, v12, v13, v14])), (h2, .inr (10, [.ref h3, v15, v16, v17, v18, v19, v20, v21, v22])), (h3, .inr (11, [v23, .int 0]))] s.heap.size = A at hD hF ⊢
  have hA : ∀ q : Nat, s.heap.size ≤ q → A q := fun q h => by rw [← hAe]; exact Or.inr h
  have hS : va_S A s.heap s.heap [] := va_S.rf
  have hP : va_P (dC, dI) vwCl [(h0, .inr (16, [.ref h2, v0, v1, v2, v3, v4, v5, v6, v7, v8, v9, v10, v11, v12, v13, v14])), (h2, .inr (10, [.ref h3, v15, v16, v17, v18, v19, v20, v21, v22])), (h3, .inr (11, [v23, .int 0]))] s.heap := hP
  have hl := lv_entry ([.ref h0, .int x0, .int x1, .ref h1]) (n := 5) (Nat.le_of_ble_eq_true rfl)
  rw [lg_entry_eq]
  generalize (lg_sl ([.ref h0, .int x0, .int x1, .ref h1]) ++ List.replicate (5 - (lg_sl ([.ref h0, .int x0, .int x1, .ref h1])).length) Slot.unset).toArray = ls at hl ⊢
  have hl : lv_has ls 5 [(0, .ref h0), (1, .int x0), (2, .int x1), (3, .ref h1)] := hl
  refine lv_aload_n hx hb dL_join_0 rfl (lv_at hl 3 rfl) ?_
  refine lv_aload_n hx hb dL_join_1 rfl (lv_at hl 0 rfl) ?_
  refine lv_iload_n hx hb dL_join_2 rfl (lv_at hl 1 rfl) ?_
  refine lv_iload_n hx hb dL_join_3 rfl (lv_at hl 2 rfl) ?_
  have hPc := hP.sub (ws' := [(h0, .inr (16, [.ref h2, v0, v1, v2, v3, v4, v5, v6, v7, v8, v9, v10, v11, v12, v13, v14])), (h2, .inr (10, [.ref h3, v15, v16, v17, v18, v19, v20, v21, v22])), (h3, .inr (11, [v23, .int 0]))]) [0, 1, 2] rfl
  have hDc := hD.sub (ws' := [(h0, .inr (16, [.ref h2, v0, v1, v2, v3, v4, v5, v6, v7, v8, v9, v10, v11, v12, v13, v14])), (h2, .inr (10, [.ref h3, v15, v16, v17, v18, v19, v20, v21, v22])), (h3, .inr (11, [v23, .int 0]))]) [0, 1, 2] (by decide) rfl
  have hKc := hK.sub (tys' := []) [] rfl
  have hFc := va_free (wc := [(h0, .inr (16, [.ref h2, v0, v1, v2, v3, v4, v5, v6, v7, v8, v9, v10, v11, v12, v13, v14])), (h2, .inr (10, [.ref h3, v15, v16, v17, v18, v19, v20, v21, v22])), (h3, .inr (11, [v23, .int 0]))]) hD hS hA [0, 1, 2] rfl
  refine vx_callv (vx_runV (As := [.int x0, .int x1]) (rest := [.ref h1]) ⟨hx, hb, hml, hown, hts⟩ (kX9_join l dC dI g s.heap.size h0 x0 x1 h2 h3 v0 v1 v2 v3 v4 v5 v6 v7 v8 v9 v10 v11 v12 v13 v14 v15 v16 v17 v18 v19 v20 v21 v22 v23  hlt) (cwV 2 hts gL_join_X9_join rfl rfl rfl (by decide +kernel) ⟨Nat.le_of_ble_eq_true rfl, Nat.le_of_ble_eq_true rfl⟩) ⟨fun a U gg mk q => by obtain ⟨q0, q1, qP, qK, qD, qF⟩ := q; exact ⟨q0, q1, qP, va_K.moved (u := U) (U := U.calling gg mk a) (Vm.Alike.refl U.vm) qK, qD, ns_same qF⟩, va_recv hK hP (ci := 16) (q0 := 0) rfl rfl, fun U hU hW => ⟨rfl, by rw [hU], by rw [hU]; exact hPc, va_K.moved hW.alike hKc, hDc.weaken (fun _ _ _ _ => trivial), ns_call hF hS hFc hU hW⟩⟩ rfl rfl hl.1 rfl (lv_room (Nat.le_of_ble_eq_true rfl)) dL_join_4 ⟨Nat.le_of_ble_eq_true rfl, Nat.le_of_ble_eq_true rfl⟩) hS (fun q _ h => hFc q h) hFc (fun q _ h => hFc q h) (fun E ce q9 u t H1 locs ht hvm hw hB hz1 hk1 hS hc1 hc2 hc3 => ?_) (fun _ _ _ _ _ _ hw _ _ _ _ => False.elim hw)
  obtain rfl : E = "java/lang/IndexOutOfBoundsException" := hB
  obtain ⟨hP, hD⟩ := va_join (wr := []) (w1 := []) hP hD [0, 1, 2] [] rfl rfl (by decide) (by decide) hk1 hFc (fun k q h => by simp at h) ⟨fun i j p q h => by simp at h, fun k q h => by simp at h⟩
  have hK := hK.sub (tys' := []) [] rfl
  generalize H1 = H at hP hS hc1 ⊢
  have hP : va_P (dC, dI) vwCl [] H := hP
  have hD : va_D A [] := hD
  have hK : va_K (dC, dI) vwCl [] s := hK
  refine vx_widen (k := 1) (n := 6) (Nat.le_of_ble_eq_true rfl) (Nat.le_of_ble_eq_true rfl) ?_
  refine vx_catch hown [] ⟨0, 11, 14, 30⟩ [⟨0, 11, 18, 21⟩] htab (fun z hz => by simp at hz) (by decide) (by decide) (hts (.classLink RL 30 "java/lang/IndexOutOfBoundsException") (by decide +kernel)) (va_Nw.use rfl (ns_f10 hF)) hc1 hc2 hc3 ?_
  refine W.eq (g2 := F0 m 14 ls [.ref q9]) rfl ?_
  refine lv_astore (lv' := [(4, .ref q9), (0, .ref h0), (1, .int x0), (2, .int x1), (3, .ref h1)]) hx hb dL_join_14 hl (by decide) rfl (fun ls hl => ?_)
  refine lv_iconst (v := 1) hx hb dL_join_16 (by decide) ?_
  have hP9 := hP.sub (ws' := []) [] rfl
  have hD9 := hD.sub (ws' := []) [] (by decide) rfl
  have hK9 := hK.sub (tys' := []) [] rfl
  refine W.widen (k := 1) (n := 6) (Nat.le_of_ble_eq_true rfl) (Nat.le_of_ble_eq_true rfl) ?_
  exact W.iret (v := 1) hx hb hr (fun t ht hW => ⟨⟨_, (), rfl, rfl, by rw [ht]; exact hP9, va_K.moved hW.alike hK9, hD9⟩, hS.F ht⟩) hS.2.2 dL_join_17
set_option maxHeartbeats 4000000 in
set_option maxRecDepth 100000 in
theorem kX16_isIn_8 (l : Launch) (dC : Nat → ClassId) (dI : Nat → Nat → Nat) (g : Nat → Nat) (sz : Nat) (x0 : Int32) : Met l yX16_isIn wsX16_isIn ({ frames := 0, cells := 0, slots := 0, locals := 0 }) (va_Pc [.int x0, .int 0, .int (-1)] (fun U => U.heap.size = sz ∧ va_P (dC, dI) vwCl [] U.heap ∧ va_K (dC, dI) vwCl [] U ∧ va_D (fun _ => True) [] ∧ ns_F g (va_A [] sz) U U.heap)) (va_Qi (fun (r : Int32) (_ : Unit) => r = 0) (fun _ t => va_P (dC, dI) vwCl [] t.heap ∧ va_K (dC, dI) vwCl [] t ∧ va_D (va_A [] sz) []) (va_A [] sz)) 0 0 (va_A [] sz) := by
  refine Met.ofW (cc := cX16_isIn) (maxL := 3) (ret := (some .boolean)) (by decide) rfl ?_
  intro p e s m args below meth c s₁ B hml hv
  obtain ⟨rfl, hsz, hP, hK, hD0, hF⟩ := hv
  have hx := B.exec
  have hb := B.bytes
  have hr := B.returns
  have hts := atoms_spec (ws := wsX16_isIn) B.pre
  have hown : s.vm.findClass RX16 = some m.cls := findClass_of_methodNamed B.named
  have hlocks := B.notSynchronized
  subst hsz
  have hD := hD0.self (sz := s.heap.size)
  generalize hAe : va_A [] s.heap.size = A at hD hF ⊢
  have hA : ∀ q : Nat, s.heap.size ≤ q → A q := fun q h => by rw [← hAe]; exact Or.inr h
  have hS : va_S A s.heap s.heap [] := va_S.rf
  have hP : va_P (dC, dI) vwCl [] s.heap := hP
  have hl := lv_entry ([.int x0, .int 0, .int (-1)]) (n := 3) (Nat.le_of_ble_eq_true rfl)
  rw [lg_entry_eq]
  generalize (lg_sl ([.int x0, .int 0, .int (-1)]) ++ List.replicate (3 - (lg_sl ([.int x0, .int 0, .int (-1)])).length) Slot.unset).toArray = ls at hl ⊢
  have hl : lv_has ls 3 [(0, .int x0), (1, .int 0), (2, .int (-1))] := hl
  refine lv_iload_n hx hb dX16_isIn_0 rfl (lv_at hl 0 rfl) ?_
  refine lv_iload_n hx hb dX16_isIn_1 rfl (lv_at hl 1 rfl) ?_
  refine lv_icmp_lt (tgt := 14) hx hb dX16_isIn_2 (by decide) (fun c1 => ?_) (fun c1 => ?_)
  · have ec1 : x0.toInt < (0 : Int) := Int32.lt_iff_toInt_lt.mp c1
    refine lv_iconst (v := 0) hx hb dX16_isIn_14 (by decide) ?_
    have hP9 := hP.sub (ws' := []) [] rfl
    have hD9 := hD.sub (ws' := []) [] (by decide) rfl
    have hK9 := hK.sub (tys' := []) [] rfl
    refine W.widen (k := 0) (n := 0) (Nat.le_of_ble_eq_true rfl) (Nat.le_of_ble_eq_true rfl) ?_
    exact W.zret (v := 0) hx hb hr (by decide) (fun t ht hW => ⟨⟨_, (), rfl, rfl, by rw [ht]; exact hP9, va_K.moved hW.alike hK9, hD9⟩, hS.F ht⟩) hS.2.2 dX16_isIn_15
  · have ec1 : ¬ x0.toInt < (0 : Int) := fun z => c1 (Int32.lt_iff_toInt_lt.mpr z)
    refine lv_iload_n hx hb dX16_isIn_5 rfl (lv_at hl 0 rfl) ?_
    refine lv_iload_n hx hb dX16_isIn_6 rfl (lv_at hl 2 rfl) ?_
    refine lv_icmp_gt (tgt := 14) hx hb dX16_isIn_7 (by decide) (fun c2 => ?_) (fun c2 => absurd (Int32.lt_iff_toInt_lt.mpr (show (-1 : Int) < x0.toInt by omega)) c2)
    refine lv_iconst (v := 0) hx hb dX16_isIn_14 (by decide) ?_
    have hP9 := hP.sub (ws' := []) [] rfl
    have hD9 := hD.sub (ws' := []) [] (by decide) rfl
    have hK9 := hK.sub (tys' := []) [] rfl
    refine W.widen (k := 0) (n := 0) (Nat.le_of_ble_eq_true rfl) (Nat.le_of_ble_eq_true rfl) ?_
    exact W.zret (v := 0) hx hb hr (by decide) (fun t ht hW => ⟨⟨_, (), rfl, rfl, by rw [ht]; exact hP9, va_K.moved hW.alike hK9, hD9⟩, hS.F ht⟩) hS.2.2 dX16_isIn_15
set_option maxHeartbeats 4000000 in
set_option maxRecDepth 100000 in
theorem kX16_isNoNode (l : Launch) (dC : Nat → ClassId) (dI : Nat → Nat → Nat) (g : Nat → Nat) (sz : Nat) (h0 : Nat) (x0 : Int32) (h1 : Nat) (v0 : Value) (v1 : Value) (v2 : Value) (v3 : Value) (v4 : Value) (v5 : Value) (v6 : Value) (v7 : Value) (v8 : Value) (v9 : Value) : Met l yX16_isNoNode wsX16_isNoNode ({ frames := 1, cells := 0, slots := 0, locals := 22 }) (va_Pc [.ref h0, .int x0] (fun U => U.heap.size = sz ∧ va_P (dC, dI) vwCl [(h0, .inr (23, [v0, .ref h1, v1, v2, v3, v4, v5, v6, v7])), (h1, .inr (6, [v8, v9, .int 0]))] U.heap ∧ va_K (dC, dI) vwCl [] U ∧ va_D (fun _ => True) [(h0, .inr (23, [v0, .ref h1, v1, v2, v3, v4, v5, v6, v7])), (h1, .inr (6, [v8, v9, .int 0]))] ∧ ns_F g (va_A [(h0, .inr (23, [v0, .ref h1, v1, v2, v3, v4, v5, v6, v7])), (h1, .inr (6, [v8, v9, .int 0]))] sz) U U.heap)) (va_Qi (fun (r : Int32) (_ : Unit) => r = 1) (fun _ t => va_P (dC, dI) vwCl [(h0, .inr (23, [v0, .ref h1, v1, v2, v3, v4, v5, v6, v7])), (h1, .inr (6, [v8, v9, .int 0]))] t.heap ∧ va_K (dC, dI) vwCl [] t ∧ va_D (va_A [(h0, .inr (23, [v0, .ref h1, v1, v2, v3, v4, v5, v6, v7])), (h1, .inr (6, [v8, v9, .int 0]))] sz) [(h0, .inr (23, [v0, .ref h1, v1, v2, v3, v4, v5, v6, v7])), (h1, .inr (6, [v8, v9, .int 0]))]) (va_A [(h0, .inr (23, [v0, .ref h1, v1, v2, v3, v4, v5, v6, v7])), (h1, .inr (6, [v8, v9, .int 0]))] sz)) 0 0 (va_A [(h0, .inr (23, [v0, .ref h1, v1, v2, v3, v4, v5, v6, v7])), (h1, .inr (6, [v8, v9, .int 0]))] sz) := by
  refine Met.ofW (cc := cX16_isNoNode) (maxL := 2) (ret := (some .boolean)) (by decide) rfl ?_
  intro p e s m args below meth c s₁ B hml hv
  obtain ⟨rfl, hsz, hP, hK, hD0, hF⟩ := hv
  have hx := B.exec
  have hb := B.bytes
  have hr := B.returns
  have hts := atoms_spec (ws := wsX16_isNoNode) B.pre
  have hown : s.vm.findClass RX16 = some m.cls := findClass_of_methodNamed B.named
  have hlocks := B.notSynchronized
  subst hsz
  have hD := hD0.self (sz := s.heap.size)
  generalize hAe : va_A [(h0, .inr (23, [v0, .ref h1, v1, v2, v3, v4, v5, v6, v7])), (h1, .inr (6, [v8, v9, .int 0]))] s.heap.size = A at hD hF ⊢
  have hA : ∀ q : Nat, s.heap.size ≤ q → A q := fun q h => by rw [← hAe]; exact Or.inr h
  have hS : va_S A s.heap s.heap [] := va_S.rf
  have hP : va_P (dC, dI) vwCl [(h0, .inr (23, [v0, .ref h1, v1, v2, v3, v4, v5, v6, v7])), (h1, .inr (6, [v8, v9, .int 0]))] s.heap := hP
  have hl := lv_entry ([.ref h0, .int x0]) (n := 2) (Nat.le_of_ble_eq_true rfl)
  rw [lg_entry_eq]
  generalize (lg_sl ([.ref h0, .int x0]) ++ List.replicate (2 - (lg_sl ([.ref h0, .int x0])).length) Slot.unset).toArray = ls at hl ⊢
  have hl : lv_has ls 2 [(0, .ref h0), (1, .int x0)] := hl
  refine lv_iload_n hx hb dX16_isNoNode_0 rfl (lv_at hl 1 rfl) ?_
  refine lv_iconst (v := 0) hx hb dX16_isNoNode_1 (by decide) ?_
  refine lv_aload_n hx hb dX16_isNoNode_2 rfl (lv_at hl 0 rfl) ?_
  refine va_get (D := (dC, dI)) (ci := 23) (v := .ref h1) (C := RX16) (T := TX16) (N := 9) hx hb hts (by decide +kernel) hown hK hP 0 rfl rfl 1 (by decide) (hts (.fieldLink RX16 10 "NestprintModel" "nodes" "Ljava/util/ArrayList;") (by decide +kernel)) (fun _ h9 => h9) rfl dX16_isNoNode_3 ?_
  have hPc := hP.sub (ws' := [(h1, .inr (6, [v8, v9, .int 0]))]) [1] rfl
  have hDc := hD.sub (ws' := [(h1, .inr (6, [v8, v9, .int 0]))]) [1] (by decide) rfl
  have hKc := hK.sub (tys' := []) [] rfl
  have hFc := va_free (wc := [(h1, .inr (6, [v8, v9, .int 0]))]) hD hS hA [1] rfl
  refine va_calli (va_runV (As := []) (rest := [.int 0, .int x0]) ⟨hx, hb, hml, hown, hts⟩ (kJx4a65c_size_8abf5 l dC dI g s.heap.size h1 v8 v9 ) (cwV 0 hts gX16_isNoNode_Jx4a65c_size_8abf5 rfl rfl rfl (by decide +kernel) ⟨Nat.le_of_ble_eq_true rfl, Nat.le_of_ble_eq_true rfl⟩) ⟨fun a U gg mk q => by obtain ⟨q0, q1, qP, qK, qD, qF⟩ := q; exact ⟨q0, q1, qP, va_K.moved (u := U) (U := U.calling gg mk a) (Vm.Alike.refl U.vm) qK, qD, ns_same qF⟩, va_recv hK hP (ci := 6) (q0 := 1) rfl rfl, fun U hU hW => ⟨rfl, by rw [hU], by rw [hU]; exact hPc, va_K.moved hW.alike hKc, hDc.weaken (fun _ _ _ _ => trivial), ns_call hF hS hFc hU hW⟩⟩ rfl rfl hl.1 rfl (lv_room (Nat.le_of_ble_eq_true rfl)) dX16_isNoNode_6 ⟨Nat.le_of_ble_eq_true rfl, Nat.le_of_ble_eq_true rfl⟩) hS (fun q _ h => hFc q h) hFc (fun r9 u t H1 locs ht hvm hw hB hz1 hk1 hS => ?_)
  obtain rfl := hw
  obtain ⟨hP1, hK1, hD1⟩ := hB
  rw [ht] at hP1
  have hK1 := va_K.moved hvm.symm hK1
  obtain ⟨hP, hD⟩ := va_join (wr := [(h0, .inr (23, [v0, .ref h1, v1, v2, v3, v4, v5, v6, v7]))]) (w1 := [(h1, .inr (6, [v8, v9, .int 0]))]) hP hD [1] [0] rfl rfl (by decide) (by decide) hk1 hFc hP1 hD1
  have hK := (hK.sub (tys' := []) [] rfl).app hK1
  generalize H1 = H at hP hS ⊢
  have hP : va_P (dC, dI) vwCl [(h0, .inr (23, [v0, .ref h1, v1, v2, v3, v4, v5, v6, v7])), (h1, .inr (6, [v8, v9, .int 0]))] H := hP
  have hD : va_D A [(h0, .inr (23, [v0, .ref h1, v1, v2, v3, v4, v5, v6, v7])), (h1, .inr (6, [v8, v9, .int 0]))] := hD
  have hK : va_K (dC, dI) vwCl [] s := hK
  refine W.widen (k := 0) (n := 0) (Nat.le_of_ble_eq_true rfl) (Nat.le_of_ble_eq_true rfl) ?_
  refine lv_iconst (v := 1) hx hb dX16_isNoNode_9 (by decide) ?_
  refine lv_isub hx hb dX16_isNoNode_10 ?_
  refine lv_topi (fun y1 ey1 => ?_)
  obtain rfl : y1 = (-1) := ey1.trans (by decide)
  have hPc := hP.sub (ws' := []) [] rfl
  have hDc := hD.sub (ws' := []) [] (by decide) rfl
  have hKc := hK.sub (tys' := []) [] rfl
  have hFc := va_free (wc := []) hD hS hA [] rfl
  refine va_calli (va_runS (As := [.int x0, .int 0, .int (-1)]) (rest := []) ⟨hx, hb, hml, hown, hts⟩ (kX16_isIn_8 l dC dI g H.size x0 ) (va_cwS 3 hts gX16_isNoNode_X16_isIn rfl rfl rfl (by decide +kernel) ⟨Nat.le_of_ble_eq_true rfl, Nat.le_of_ble_eq_true rfl⟩) ⟨fun a U gg mk q => by obtain ⟨q0, q1, qP, qK, qD, qF⟩ := q; exact ⟨q0, q1, qP, va_K.moved (u := U) (U := U.calling gg mk a) (Vm.Alike.refl U.vm) qK, qD, ns_same qF⟩, fun U hU hW => ⟨rfl, by rw [hU], by rw [hU]; exact hPc, va_K.moved hW.alike hKc, hDc.weaken (fun _ _ _ _ => trivial), ns_call hF hS hFc hU hW⟩⟩ rfl rfl hl.1 rfl (lv_room (Nat.le_of_ble_eq_true rfl)) dX16_isNoNode_11 ⟨Nat.le_of_ble_eq_true rfl, Nat.le_of_ble_eq_true rfl⟩) hS (fun q _ h => hFc q h) hFc (fun r9 u t H1 locs ht hvm hw hB hz1 hk1 hS => ?_)
  obtain rfl := hw
  obtain ⟨hP1, hK1, hD1⟩ := hB
  rw [ht] at hP1
  have hK1 := va_K.moved hvm.symm hK1
  obtain ⟨hP, hD⟩ := va_join (wr := [(h0, .inr (23, [v0, .ref h1, v1, v2, v3, v4, v5, v6, v7])), (h1, .inr (6, [v8, v9, .int 0]))]) (w1 := []) hP hD [] [0, 1] rfl rfl (by decide) (by decide) hk1 hFc hP1 hD1
  have hK := (hK.sub (tys' := []) [] rfl).app hK1
  generalize H1 = H at hP hS ⊢
  have hP : va_P (dC, dI) vwCl [(h0, .inr (23, [v0, .ref h1, v1, v2, v3, v4, v5, v6, v7])), (h1, .inr (6, [v8, v9, .int 0]))] H := hP
  have hD : va_D A [(h0, .inr (23, [v0, .ref h1, v1, v2, v3, v4, v5, v6, v7])), (h1, .inr (6, [v8, v9, .int 0]))] := hD
  have hK : va_K (dC, dI) vwCl [] s := hK
  refine W.widen (k := 0) (n := 0) (Nat.le_of_ble_eq_true rfl) (Nat.le_of_ble_eq_true rfl) ?_
  refine lv_if_ne (tgt := 21) hx hb dX16_isNoNode_14 (by decide) (fun c2 => absurd (by decide) c2) (fun c2 => ?_)
  refine lv_iconst (v := 1) hx hb dX16_isNoNode_17 (by decide) ?_
  refine lv_goto (tgt := 22) hx hb dX16_isNoNode_18 (by decide) ?_
  have hP9 := hP.sub (ws' := [(h0, .inr (23, [v0, .ref h1, v1, v2, v3, v4, v5, v6, v7])), (h1, .inr (6, [v8, v9, .int 0]))]) [0, 1] rfl
  have hD9 := hD.sub (ws' := [(h0, .inr (23, [v0, .ref h1, v1, v2, v3, v4, v5, v6, v7])), (h1, .inr (6, [v8, v9, .int 0]))]) [0, 1] (by decide) rfl
  have hK9 := hK.sub (tys' := []) [] rfl
  refine W.widen (k := 0) (n := 0) (Nat.le_of_ble_eq_true rfl) (Nat.le_of_ble_eq_true rfl) ?_
  exact W.zret (v := 1) hx hb hr (by decide) (fun t ht hW => ⟨⟨_, (), rfl, rfl, by rw [ht]; exact hP9, va_K.moved hW.alike hK9, hD9⟩, hS.F ht⟩) hS.2.2 dX16_isNoNode_22
set_option maxHeartbeats 4000000 in
set_option maxRecDepth 100000 in
theorem kX16_join (l : Launch) (dC : Nat → ClassId) (dI : Nat → Nat → Nat) (g : Nat → Nat) (sz : Nat) (h0 : Nat) (x0 : Int32) (x1 : Int32) (h1 : Nat) (v0 : Value) (v1 : Value) (v2 : Value) (v3 : Value) (v4 : Value) (v5 : Value) (v6 : Value) (v7 : Value) (v8 : Value) (v9 : Value) : Met l yX16_join wsX16_join ({ frames := 2, cells := 0, slots := 0, locals := 44 }) (va_Pc [.ref h0, .int x0, .int x1] (fun U => U.heap.size = sz ∧ va_P (dC, dI) vwCl [(h0, .inr (23, [v0, .ref h1, v1, v2, v3, v4, v5, v6, v7])), (h1, .inr (6, [v8, v9, .int 0]))] U.heap ∧ va_K (dC, dI) vwCl [] U ∧ va_D (fun _ => True) [(h0, .inr (23, [v0, .ref h1, v1, v2, v3, v4, v5, v6, v7])), (h1, .inr (6, [v8, v9, .int 0]))] ∧ ns_F g (va_A [(h0, .inr (23, [v0, .ref h1, v1, v2, v3, v4, v5, v6, v7])), (h1, .inr (6, [v8, v9, .int 0]))] sz) U U.heap)) (va_Qi (fun (r : Int32) (_ : Unit) => r = 0) (fun _ t => va_P (dC, dI) vwCl [(h1, .inr (6, [v8, v9, .int 0])), (h0, .inr (23, [.int 1, .ref h1, v1, v2, v3, v4, v5, v6, v7]))] t.heap ∧ va_K (dC, dI) vwCl [] t ∧ va_D (va_A [(h0, .inr (23, [v0, .ref h1, v1, v2, v3, v4, v5, v6, v7])), (h1, .inr (6, [v8, v9, .int 0]))] sz) [(h1, .inr (6, [v8, v9, .int 0])), (h0, .inr (23, [.int 1, .ref h1, v1, v2, v3, v4, v5, v6, v7]))]) (va_A [(h0, .inr (23, [v0, .ref h1, v1, v2, v3, v4, v5, v6, v7])), (h1, .inr (6, [v8, v9, .int 0]))] sz)) 0 0 (va_A [(h0, .inr (23, [v0, .ref h1, v1, v2, v3, v4, v5, v6, v7])), (h1, .inr (6, [v8, v9, .int 0]))] sz) := by
  refine Met.ofW (cc := cX16_join) (maxL := 3) (ret := (some .int)) (by decide) rfl ?_
  intro p e s m args below meth c s₁ B hml hv
  obtain ⟨rfl, hsz, hP, hK, hD0, hF⟩ := hv
  have hx := B.exec
  have hb := B.bytes
  have hr := B.returns
  have hts := atoms_spec (ws := wsX16_join) B.pre
  have hown : s.vm.findClass RX16 = some m.cls := findClass_of_methodNamed B.named
  have hlocks := B.notSynchronized
  subst hsz
  have hD := hD0.self (sz := s.heap.size)
  generalize hAe : va_A [(h0, .inr (23, [v0, .ref h1, v1, v2, v3, v4, v5, v6, v7])), (h1, .inr (6, [v8, v9, .int 0]))] s.heap.size = A at hD hF ⊢
  have hA : ∀ q : Nat, s.heap.size ≤ q → A q := fun q h => by rw [← hAe]; exact Or.inr h
  have hS : va_S A s.heap s.heap [] := va_S.rf
  have hP : va_P (dC, dI) vwCl [(h0, .inr (23, [v0, .ref h1, v1, v2, v3, v4, v5, v6, v7])), (h1, .inr (6, [v8, v9, .int 0]))] s.heap := hP
  have hl := lv_entry ([.ref h0, .int x0, .int x1]) (n := 3) (Nat.le_of_ble_eq_true rfl)
  rw [lg_entry_eq]
  generalize (lg_sl ([.ref h0, .int x0, .int x1]) ++ List.replicate (3 - (lg_sl ([.ref h0, .int x0, .int x1])).length) Slot.unset).toArray = ls at hl ⊢
  have hl : lv_has ls 3 [(0, .ref h0), (1, .int x0), (2, .int x1)] := hl
  refine lv_aload_n hx hb dX16_join_0 rfl (lv_at hl 0 rfl) ?_
  refine lv_aload_n hx hb dX16_join_1 rfl (lv_at hl 0 rfl) ?_
  refine lv_iload_n hx hb dX16_join_2 rfl (lv_at hl 1 rfl) ?_
  have hPc := hP.sub (ws' := [(h0, .inr (23, [v0, .ref h1, v1, v2, v3, v4, v5, v6, v7])), (h1, .inr (6, [v8, v9, .int 0]))]) [0, 1] rfl
  have hDc := hD.sub (ws' := [(h0, .inr (23, [v0, .ref h1, v1, v2, v3, v4, v5, v6, v7])), (h1, .inr (6, [v8, v9, .int 0]))]) [0, 1] (by decide) rfl
  have hKc := hK.sub (tys' := []) [] rfl
  have hFc := va_free (wc := [(h0, .inr (23, [v0, .ref h1, v1, v2, v3, v4, v5, v6, v7])), (h1, .inr (6, [v8, v9, .int 0]))]) hD hS hA [0, 1] rfl
  refine va_calli (va_runV (As := [.int x0]) (rest := [.ref h0]) ⟨hx, hb, hml, hown, hts⟩ (kX16_isNoNode l dC dI g s.heap.size h0 x0 h1 v0 v1 v2 v3 v4 v5 v6 v7 v8 v9 ) (cwV 1 hts gX16_join_X16_isNoNode rfl rfl rfl (by decide +kernel) ⟨Nat.le_of_ble_eq_true rfl, Nat.le_of_ble_eq_true rfl⟩) ⟨fun a U gg mk q => by obtain ⟨q0, q1, qP, qK, qD, qF⟩ := q; exact ⟨q0, q1, qP, va_K.moved (u := U) (U := U.calling gg mk a) (Vm.Alike.refl U.vm) qK, qD, ns_same qF⟩, va_recv hK hP (ci := 23) (q0 := 0) rfl rfl, fun U hU hW => ⟨rfl, by rw [hU], by rw [hU]; exact hPc, va_K.moved hW.alike hKc, hDc.weaken (fun _ _ _ _ => trivial), ns_call hF hS hFc hU hW⟩⟩ rfl rfl hl.1 rfl (lv_room (Nat.le_of_ble_eq_true rfl)) dX16_join_3 ⟨Nat.le_of_ble_eq_true rfl, Nat.le_of_ble_eq_true rfl⟩) hS (fun q _ h => hFc q h) hFc (fun r9 u t H1 locs ht hvm hw hB hz1 hk1 hS => ?_)
  obtain rfl := hw
  obtain ⟨hP1, hK1, hD1⟩ := hB
  rw [ht] at hP1
  have hK1 := va_K.moved hvm.symm hK1
  obtain ⟨hP, hD⟩ := va_join (wr := []) (w1 := [(h0, .inr (23, [v0, .ref h1, v1, v2, v3, v4, v5, v6, v7])), (h1, .inr (6, [v8, v9, .int 0]))]) hP hD [0, 1] [] rfl rfl (by decide) (by decide) hk1 hFc hP1 hD1
  have hK := (hK.sub (tys' := []) [] rfl).app hK1
  generalize H1 = H at hP hS ⊢
  have hP : va_P (dC, dI) vwCl [(h0, .inr (23, [v0, .ref h1, v1, v2, v3, v4, v5, v6, v7])), (h1, .inr (6, [v8, v9, .int 0]))] H := hP
  have hD : va_D A [(h0, .inr (23, [v0, .ref h1, v1, v2, v3, v4, v5, v6, v7])), (h1, .inr (6, [v8, v9, .int 0]))] := hD
  have hK : va_K (dC, dI) vwCl [] s := hK
  refine W.widen (k := 0) (n := 0) (Nat.le_of_ble_eq_true rfl) (Nat.le_of_ble_eq_true rfl) ?_
  refine lv_if_ne (tgt := 17) hx hb dX16_join_6 (by decide) (fun c1 => ?_) (fun c1 => absurd c1 (by decide))
  refine lv_iconst (v := 1) hx hb dX16_join_17 (by decide) ?_
  refine lv_goto (tgt := 22) hx hb dX16_join_18 (by decide) ?_
  refine lv_iconst (v := 1) hx hb dX16_join_22 (by decide) ?_
  have hPc := hP.sub (ws' := [(h0, .inr (23, [v0, .ref h1, v1, v2, v3, v4, v5, v6, v7]))]) [0] rfl
  have hDc := hD.sub (ws' := [(h0, .inr (23, [v0, .ref h1, v1, v2, v3, v4, v5, v6, v7]))]) [0] (by decide) rfl
  have hKc := hK.sub (tys' := []) [] rfl
  have hFc := va_free (wc := [(h0, .inr (23, [v0, .ref h1, v1, v2, v3, v4, v5, v6, v7]))]) hD hS hA [0] rfl
  refine va_calli (va_runV (As := [.int 1, .int 1]) (rest := []) ⟨hx, hb, hml, hown, hts⟩ (kX16_start l dC dI g H.size h0 v0 (.ref h1) v1 v2 v3 v4 v5 v6 v7 ) (cwV 2 hts gX16_join_X16_start rfl rfl rfl (by decide +kernel) ⟨Nat.le_of_ble_eq_true rfl, Nat.le_of_ble_eq_true rfl⟩) ⟨fun a U gg mk q => by obtain ⟨q0, q1, qP, qK, qD, qF⟩ := q; exact ⟨q0, q1, qP, va_K.moved (u := U) (U := U.calling gg mk a) (Vm.Alike.refl U.vm) qK, qD, ns_same qF⟩, va_recv hK hP (ci := 23) (q0 := 0) rfl rfl, fun U hU hW => ⟨rfl, by rw [hU], by rw [hU]; exact hPc, va_K.moved hW.alike hKc, hDc.weaken (fun _ _ _ _ => trivial), ns_call hF hS hFc hU hW⟩⟩ rfl rfl hl.1 rfl (lv_room (Nat.le_of_ble_eq_true rfl)) dX16_join_23 ⟨Nat.le_of_ble_eq_true rfl, Nat.le_of_ble_eq_true rfl⟩) hS (fun q _ h => hFc q h) hFc (fun r9 u t H1 locs ht hvm hw hB hz1 hk1 hS => ?_)
  obtain rfl := hw
  obtain ⟨hP1, hK1, hD1⟩ := hB
  rw [ht] at hP1
  have hK1 := va_K.moved hvm.symm hK1
  obtain ⟨hP, hD⟩ := va_join (wr := [(h1, .inr (6, [v8, v9, .int 0]))]) (w1 := [(h0, .inr (23, [.int 1, .ref h1, v1, v2, v3, v4, v5, v6, v7]))]) hP hD [0] [1] rfl rfl (by decide) (by decide) hk1 hFc hP1 hD1
  have hK := (hK.sub (tys' := []) [] rfl).app hK1
  generalize H1 = H at hP hS ⊢
  have hP : va_P (dC, dI) vwCl [(h1, .inr (6, [v8, v9, .int 0])), (h0, .inr (23, [.int 1, .ref h1, v1, v2, v3, v4, v5, v6, v7]))] H := hP
  have hD : va_D A [(h1, .inr (6, [v8, v9, .int 0])), (h0, .inr (23, [.int 1, .ref h1, v1, v2, v3, v4, v5, v6, v7]))] := hD
  have hK : va_K (dC, dI) vwCl [] s := hK
  refine W.widen (k := 0) (n := 0) (Nat.le_of_ble_eq_true rfl) (Nat.le_of_ble_eq_true rfl) ?_
  refine lv_if_eq (tgt := 33) hx hb dX16_join_26 (by decide) (fun c2 => absurd c2 (by decide)) (fun c2 => ?_)
  refine lv_iconst (v := 0) hx hb dX16_join_29 (by decide) ?_
  refine lv_goto (tgt := 77) hx hb dX16_join_30 (by decide) ?_
  have hP9 := hP.sub (ws' := [(h1, .inr (6, [v8, v9, .int 0])), (h0, .inr (23, [.int 1, .ref h1, v1, v2, v3, v4, v5, v6, v7]))]) [0, 1] rfl
  have hD9 := hD.sub (ws' := [(h1, .inr (6, [v8, v9, .int 0])), (h0, .inr (23, [.int 1, .ref h1, v1, v2, v3, v4, v5, v6, v7]))]) [0, 1] (by decide) rfl
  have hK9 := hK.sub (tys' := []) [] rfl
  refine W.widen (k := 0) (n := 0) (Nat.le_of_ble_eq_true rfl) (Nat.le_of_ble_eq_true rfl) ?_
  exact W.iret (v := 0) hx hb hr (fun t ht hW => ⟨⟨_, (), rfl, rfl, by rw [ht]; exact hP9, va_K.moved hW.alike hK9, hD9⟩, hS.F ht⟩) hS.2.2 dX16_join_77
