set_option maxHeartbeats 4000000 in
set_option maxRecDepth 100000 in
theorem kL_codeLine (l : Launch) (dC : Nat → ClassId) (dI : Nat → Nat → Nat) (g : Nat → Nat) (sz : Nat) (h0 : Nat) (x0 : Int32) (h1 : Nat) (v0 : Value) (v1 : Value) (v2 : Value) (v3 : Value) (v4 : Value) (v5 : Value) (v6 : Value) (v7 : Value) (v8 : Value) (v9 : Value) (v10 : Value) (v11 : Value) (v12 : Value) (v13 : Value) (v14 : Value) (v15 : Value) (ex0 : (-2147483648 : Int) ≤ x0.toInt ∧ x0.toInt ≤ (-1 : Int)) (hlt : l.stackTraces = false) : Met l yL_codeLine wsL_codeLine ({ frames := 8, cells := 1, slots := 6, locals := 124 }) (va_Pc [.ref h0, .int x0, .ref h1] (fun U => U.heap.size = sz ∧ va_P (dC, dI) vwCl [(h0, .inr (16, [v0, v1, v2, v3, v4, v5, v6, v7, v8, v9, v10, v11, v12, v13, v14, v15]))] U.heap ∧ va_K (dC, dI) vwCl [] U ∧ va_D (fun _ => True) [(h0, .inr (16, [v0, v1, v2, v3, v4, v5, v6, v7, v8, v9, v10, v11, v12, v13, v14, v15]))] ∧ ns_F g (va_A [(h0, .inr (16, [v0, v1, v2, v3, v4, v5, v6, v7, v8, v9, v10, v11, v12, v13, v14, v15]))] sz) U U.heap)) (va_Qi (fun (r : Int32) (_ : Unit) => r = 1) (fun _ t => va_P (dC, dI) vwCl [] t.heap ∧ va_K (dC, dI) vwCl [] t ∧ va_D (va_A [(h0, .inr (16, [v0, v1, v2, v3, v4, v5, v6, v7, v8, v9, v10, v11, v12, v13, v14, v15]))] sz) []) (va_A [(h0, .inr (16, [v0, v1, v2, v3, v4, v5, v6, v7, v8, v9, v10, v11, v12, v13, v14, v15]))] sz)) 1 6 (va_A [(h0, .inr (16, [v0, v1, v2, v3, v4, v5, v6, v7, v8, v9, v10, v11, v12, v13, v14, v15]))] sz) := by
  refine va_MetW (cc := cL_codeLine) (maxL := 4) (ret := (some .int)) (hh := [(0, 9, 12, 19)]) (by decide) rfl ?_
  intro p e s m args below meth c s₁ B hml hv
  obtain ⟨rfl, hsz, hP, hK, hD0, hF⟩ := hv
  have hx := B.exec
  have hb := B.bytes
  have hr := B.returns
  have hts := atoms_spec (ws := wsL_codeLine) B.pre
  have hown : s.vm.findClass RL = some m.cls := findClass_of_methodNamed B.named
  have hlocks := B.notSynchronized
  have htab : c.exceptionTable.toList = [⟨0, 9, 12, 19⟩] := vx_table B (hts _ List.mem_cons_self)
  subst hsz
  have hD := hD0.self (sz := s.heap.size)
  generalize hAe : va_A [(h0, .inr (16, [v0, v1, v2, v3, v4, v5, v6, v7, v8, v9, v10, v11, v12, v13, v14, v15]))] s.heap.size = A at hD hF ⊢
  have hA : ∀ q : Nat, s.heap.size ≤ q → A q := fun q h => by rw [← hAe]; exact Or.inr h
  have hS : va_S A s.heap s.heap [] := va_S.rf
  have hP : va_P (dC, dI) vwCl [(h0, .inr (16, [v0, v1, v2, v3, v4, v5, v6, v7, v8, v9, v10, v11, v12, v13, v14, v15]))] s.heap := hP
  have hl := lv_entry ([.ref h0, .int x0, .ref h1]) (n := 4) (Nat.le_of_ble_eq_true rfl)
  rw [lg_entry_eq]
  generalize (lg_sl ([.ref h0, .int x0, .ref h1]) ++ List.replicate (4 - (lg_sl ([.ref h0, .int x0, .ref h1])).length) Slot.unset).toArray = ls at hl ⊢
  have hl : lv_has ls 4 [(0, .ref h0), (1, .int x0), (2, .ref h1)] := hl
  refine lv_aload_n hx hb dL_codeLine_0 rfl (lv_at hl 2 rfl) ?_
  refine lv_aload_n hx hb dL_codeLine_1 rfl (lv_at hl 0 rfl) ?_
  refine lv_iload_n hx hb dL_codeLine_2 rfl (lv_at hl 1 rfl) ?_
  have hPc := hP.sub (ws' := [(h0, .inr (16, [v0, v1, v2, v3, v4, v5, v6, v7, v8, v9, v10, v11, v12, v13, v14, v15]))]) [0] rfl
  have hDc := hD.sub (ws' := [(h0, .inr (16, [v0, v1, v2, v3, v4, v5, v6, v7, v8, v9, v10, v11, v12, v13, v14, v15]))]) [0] (by decide) rfl
  have hKc := hK.sub (tys' := []) [] rfl
  have hFc := va_free (wc := [(h0, .inr (16, [v0, v1, v2, v3, v4, v5, v6, v7, v8, v9, v10, v11, v12, v13, v14, v15]))]) hD hS hA [0] rfl
  refine vx_callv (vx_runV (As := [.int x0]) (rest := [.ref h1]) ⟨hx, hb, hml, hown, hts⟩ (kX9_codeLine l dC dI g s.heap.size h0 x0 v0 v1 v2 v3 v4 v5 v6 v7 v8 v9 v10 v11 v12 v13 v14 v15 ⟨by omega, by omega⟩ hlt) (cwV 1 hts gL_codeLine_X9_codeLine rfl rfl rfl (by decide +kernel) ⟨Nat.le_of_ble_eq_true rfl, Nat.le_of_ble_eq_true rfl⟩) ⟨fun a U gg mk q => by obtain ⟨q0, q1, qP, qK, qD, qF⟩ := q; exact ⟨q0, q1, qP, va_K.moved (u := U) (U := U.calling gg mk a) (Vm.Alike.refl U.vm) qK, qD, ns_same qF⟩, va_recv hK hP (ci := 16) (q0 := 0) rfl rfl, fun U hU hW => ⟨rfl, by rw [hU], by rw [hU]; exact hPc, va_K.moved hW.alike hKc, hDc.weaken (fun _ _ _ _ => trivial), ns_call hF hS hFc hU hW⟩⟩ rfl rfl hl.1 rfl (lv_room (Nat.le_of_ble_eq_true rfl)) dL_codeLine_3 ⟨Nat.le_of_ble_eq_true rfl, Nat.le_of_ble_eq_true rfl⟩) hS (fun q _ h => hFc q h) hFc (fun q _ h => hFc q h) (fun E ce q9 u t H1 locs ht hvm hw hB hz1 hk1 hS hc1 hc2 hc3 => ?_) (fun _ _ _ _ _ _ hw _ _ _ _ => False.elim hw)
  obtain rfl : E = "java/lang/IllegalArgumentException" := hB
  obtain ⟨hP, hD⟩ := va_join (wr := []) (w1 := []) hP hD [0] [] rfl rfl (by decide) (by decide) hk1 hFc (fun k q h => by simp at h) ⟨fun i j p q h => by simp at h, fun k q h => by simp at h⟩
  have hK := hK.sub (tys' := []) [] rfl
  generalize H1 = H at hP hS hc1 ⊢
  have hP : va_P (dC, dI) vwCl [] H := hP
  have hD : va_D A [] := hD
  have hK : va_K (dC, dI) vwCl [] s := hK
  refine vx_widen (k := 1) (n := 6) (Nat.le_of_ble_eq_true rfl) (Nat.le_of_ble_eq_true rfl) ?_
  refine vx_catch hown [] ⟨0, 9, 12, 19⟩ [] htab (fun z hz => by simp at hz) (by decide) (by decide) (hts (.classLink RL 19 "java/lang/IllegalArgumentException") (by decide +kernel)) (va_Nw.use rfl (ns_f11 hF)) hc1 hc2 hc3 ?_
  refine W.eq (g2 := F0 m 12 ls [.ref q9]) rfl ?_
  refine lv_astore_n (lv' := [(3, .ref q9), (0, .ref h0), (1, .int x0), (2, .ref h1)]) hx hb dL_codeLine_12 rfl hl (by decide) rfl (fun ls hl => ?_)
  refine lv_iconst (v := 1) hx hb dL_codeLine_13 (by decide) ?_
  have hP9 := hP.sub (ws' := []) [] rfl
  have hD9 := hD.sub (ws' := []) [] (by decide) rfl
  have hK9 := hK.sub (tys' := []) [] rfl
  refine W.widen (k := 1) (n := 6) (Nat.le_of_ble_eq_true rfl) (Nat.le_of_ble_eq_true rfl) ?_
  exact W.iret (v := 1) hx hb hr (fun t ht hW => ⟨⟨_, (), rfl, rfl, by rw [ht]; exact hP9, va_K.moved hW.alike hK9, hD9⟩, hS.F ht⟩) hS.2.2 dL_codeLine_14
set_option maxHeartbeats 4000000 in
set_option maxRecDepth 100000 in
theorem kX16_codeLine (l : Launch) (dC : Nat → ClassId) (dI : Nat → Nat → Nat) (g : Nat → Nat) (sz : Nat) (h0 : Nat) (x0 : Int32) (v0 : Value) (v1 : Value) (v2 : Value) (v3 : Value) (v4 : Value) (v5 : Value) (v6 : Value) (v7 : Value) (v8 : Value) (ex0 : (-2147483648 : Int) ≤ x0.toInt ∧ x0.toInt ≤ (-1 : Int)) : Met l yX16_codeLine wsX16_codeLine ({ frames := 2, cells := 0, slots := 0, locals := 44 }) (va_Pc [.ref h0, .int x0] (fun U => U.heap.size = sz ∧ va_P (dC, dI) vwCl [(h0, .inr (23, [v0, v1, v2, v3, v4, v5, v6, v7, v8]))] U.heap ∧ va_K (dC, dI) vwCl [] U ∧ va_D (fun _ => True) [(h0, .inr (23, [v0, v1, v2, v3, v4, v5, v6, v7, v8]))] ∧ ns_F g (va_A [(h0, .inr (23, [v0, v1, v2, v3, v4, v5, v6, v7, v8]))] sz) U U.heap)) (va_Qr (fun _ : Unit => True) (fun _ r t => r = (g 34) ∧ va_P (dC, dI) vwCl [(h0, .inr (23, [.int 1, v1, v2, v3, v4, v5, v6, v7, v8]))] t.heap ∧ va_K (dC, dI) vwCl [] t ∧ va_D (va_A [(h0, .inr (23, [v0, v1, v2, v3, v4, v5, v6, v7, v8]))] sz) [(h0, .inr (23, [.int 1, v1, v2, v3, v4, v5, v6, v7, v8]))]) (va_A [(h0, .inr (23, [v0, v1, v2, v3, v4, v5, v6, v7, v8]))] sz)) 0 0 (va_A [(h0, .inr (23, [v0, v1, v2, v3, v4, v5, v6, v7, v8]))] sz) := by
  refine Met.ofW (cc := cX16_codeLine) (maxL := 2) (ret := (some (.object "java/lang/String"))) (by decide) rfl ?_
  intro p e s m args below meth c s₁ B hml hv
  obtain ⟨rfl, hsz, hP, hK, hD0, hF⟩ := hv
  have hx := B.exec
  have hb := B.bytes
  have hr := B.returns
  have hts := atoms_spec (ws := wsX16_codeLine) B.pre
  have hown : s.vm.findClass RX16 = some m.cls := findClass_of_methodNamed B.named
  have hlocks := B.notSynchronized
  subst hsz
  have hD := hD0.self (sz := s.heap.size)
  generalize hAe : va_A [(h0, .inr (23, [v0, v1, v2, v3, v4, v5, v6, v7, v8]))] s.heap.size = A at hD hF ⊢
  have hA : ∀ q : Nat, s.heap.size ≤ q → A q := fun q h => by rw [← hAe]; exact Or.inr h
  have hS : va_S A s.heap s.heap [] := va_S.rf
  have hP : va_P (dC, dI) vwCl [(h0, .inr (23, [v0, v1, v2, v3, v4, v5, v6, v7, v8]))] s.heap := hP
  have hl := lv_entry ([.ref h0, .int x0]) (n := 2) (Nat.le_of_ble_eq_true rfl)
  rw [lg_entry_eq]
  generalize (lg_sl ([.ref h0, .int x0]) ++ List.replicate (2 - (lg_sl ([.ref h0, .int x0])).length) Slot.unset).toArray = ls at hl ⊢
  have hl : lv_has ls 2 [(0, .ref h0), (1, .int x0)] := hl
  refine lv_aload_n hx hb dX16_codeLine_0 rfl (lv_at hl 0 rfl) ?_
  refine lv_iload_n hx hb dX16_codeLine_1 rfl (lv_at hl 1 rfl) ?_
  refine lv_if_ge (tgt := 9) hx hb dX16_codeLine_2 (by decide) (fun c1 => absurd c1 (fun z => absurd (Int32.le_iff_toInt_le.mp z : (0 : Int) ≤ x0.toInt) (by omega))) (fun c1 => ?_)
  refine lv_iconst (v := 1) hx hb dX16_codeLine_5 (by decide) ?_
  refine lv_goto (tgt := 10) hx hb dX16_codeLine_6 (by decide) ?_
  refine lv_iconst (v := 1) hx hb dX16_codeLine_10 (by decide) ?_
  have hPc := hP.sub (ws' := [(h0, .inr (23, [v0, v1, v2, v3, v4, v5, v6, v7, v8]))]) [0] rfl
  have hDc := hD.sub (ws' := [(h0, .inr (23, [v0, v1, v2, v3, v4, v5, v6, v7, v8]))]) [0] (by decide) rfl
  have hKc := hK.sub (tys' := []) [] rfl
  have hFc := va_free (wc := [(h0, .inr (23, [v0, v1, v2, v3, v4, v5, v6, v7, v8]))]) hD hS hA [0] rfl
  refine va_calli (va_runV (As := [.int 1, .int 1]) (rest := []) ⟨hx, hb, hml, hown, hts⟩ (kX16_start l dC dI g s.heap.size h0 v0 v1 v2 v3 v4 v5 v6 v7 v8 ) (cwV 2 hts gX16_codeLine_X16_start rfl rfl rfl (by decide +kernel) ⟨Nat.le_of_ble_eq_true rfl, Nat.le_of_ble_eq_true rfl⟩) ⟨fun a U gg mk q => by obtain ⟨q0, q1, qP, qK, qD, qF⟩ := q; exact ⟨q0, q1, qP, va_K.moved (u := U) (U := U.calling gg mk a) (Vm.Alike.refl U.vm) qK, qD, ns_same qF⟩, va_recv hK hP (ci := 23) (q0 := 0) rfl rfl, fun U hU hW => ⟨rfl, by rw [hU], by rw [hU]; exact hPc, va_K.moved hW.alike hKc, hDc.weaken (fun _ _ _ _ => trivial), ns_call hF hS hFc hU hW⟩⟩ rfl rfl hl.1 rfl (lv_room (Nat.le_of_ble_eq_true rfl)) dX16_codeLine_11 ⟨Nat.le_of_ble_eq_true rfl, Nat.le_of_ble_eq_true rfl⟩) hS (fun q _ h => hFc q h) hFc (fun r9 u t H1 locs ht hvm hw hB hz1 hk1 hS => ?_)
  obtain rfl := hw
  obtain ⟨hP1, hK1, hD1⟩ := hB
  rw [ht] at hP1
  have hK1 := va_K.moved hvm.symm hK1
  obtain ⟨hP, hD⟩ := va_join (wr := []) (w1 := [(h0, .inr (23, [.int 1, v1, v2, v3, v4, v5, v6, v7, v8]))]) hP hD [0] [] rfl rfl (by decide) (by decide) hk1 hFc hP1 hD1
  have hK := (hK.sub (tys' := []) [] rfl).app hK1
  generalize H1 = H at hP hS ⊢
  have hP : va_P (dC, dI) vwCl [(h0, .inr (23, [.int 1, v1, v2, v3, v4, v5, v6, v7, v8]))] H := hP
  have hD : va_D A [(h0, .inr (23, [.int 1, v1, v2, v3, v4, v5, v6, v7, v8]))] := hD
  have hK : va_K (dC, dI) vwCl [] s := hK
  refine W.widen (k := 0) (n := 0) (Nat.le_of_ble_eq_true rfl) (Nat.le_of_ble_eq_true rfl) ?_
  refine lv_if_eq (tgt := 22) hx hb dX16_codeLine_14 (by decide) (fun c2 => absurd c2 (by decide)) (fun c2 => ?_)
  refine va_ldcS hx hb hown (ns_f32 hF) dX16_codeLine_17 ?_
  refine lv_goto (tgt := 50) hx hb dX16_codeLine_19 (by decide) ?_
  have hP9 := hP.sub (ws' := [(h0, .inr (23, [.int 1, v1, v2, v3, v4, v5, v6, v7, v8]))]) [0] rfl
  have hD9 := hD.sub (ws' := [(h0, .inr (23, [.int 1, v1, v2, v3, v4, v5, v6, v7, v8]))]) [0] (by decide) rfl
  have hK9 := hK.sub (tys' := []) [] rfl
  refine W.widen (k := 0) (n := 0) (Nat.le_of_ble_eq_true rfl) (Nat.le_of_ble_eq_true rfl) ?_
  exact W.aret (v := .ref (g 34)) hx hb hr (by first | exact Or.inl ⟨_, rfl⟩ | exact Or.inr ⟨_, rfl⟩) (Or.inr ⟨_, rfl⟩) (fun t ht hW => ⟨⟨(), _, rfl, trivial, rfl, by rw [ht]; exact hP9, va_K.moved hW.alike hK9, hD9⟩, hS.F ht⟩) hS.2.2 dX16_codeLine_50
set_option maxHeartbeats 4000000 in
set_option maxRecDepth 100000 in
theorem kX9_needNth_2 (l : Launch) (dC : Nat → ClassId) (dI : Nat → Nat → Nat) (g : Nat → Nat) (sz : Nat) (h0 : Nat) (x0 : Int32) (ex0 : (0 : Int) ≤ x0.toInt ∧ x0.toInt ≤ (2147483647 : Int)) : Met l yX9_needNth wsX9_needNth ({ frames := 0, cells := 0, slots := 0, locals := 0 }) (va_Pc [.ref h0, .int x0] (fun U => U.heap.size = sz ∧ va_P (dC, dI) vwCl [] U.heap ∧ va_K (dC, dI) vwCl [] U ∧ va_D (fun _ => True) [] ∧ ns_F g (va_A [] sz) U U.heap)) (va_Qv (fun _ : Unit => True) (fun _ t => va_P (dC, dI) vwCl [] t.heap ∧ va_K (dC, dI) vwCl [] t ∧ va_D (va_A [] sz) []) (va_A [] sz)) 0 0 (va_A [] sz) := by
  refine Met.ofW (cc := cX9_needNth) (maxL := 2) (ret := none) (by decide) rfl ?_
  intro p e s m args below meth c s₁ B hml hv
  obtain ⟨rfl, hsz, hP, hK, hD0, hF⟩ := hv
  have hx := B.exec
  have hb := B.bytes
  have hr := B.returns
  have hts := atoms_spec (ws := wsX9_needNth) B.pre
  have hown : s.vm.findClass RX9 = some m.cls := findClass_of_methodNamed B.named
  have hlocks := B.notSynchronized
  subst hsz
  have hD := hD0.self (sz := s.heap.size)
  generalize hAe : va_A [] s.heap.size = A at hD hF ⊢
  have hA : ∀ q : Nat, s.heap.size ≤ q → A q := fun q h => by rw [← hAe]; exact Or.inr h
  have hS : va_S A s.heap s.heap [] := va_S.rf
  have hP : va_P (dC, dI) vwCl [] s.heap := hP
  have hl := lv_entry ([.ref h0, .int x0]) (n := 2) (Nat.le_of_ble_eq_true rfl)
  rw [lg_entry_eq]
  generalize (lg_sl ([.ref h0, .int x0]) ++ List.replicate (2 - (lg_sl ([.ref h0, .int x0])).length) Slot.unset).toArray = ls at hl ⊢
  have hl : lv_has ls 2 [(0, .ref h0), (1, .int x0)] := hl
  refine lv_iload_n hx hb dX9_needNth_0 rfl (lv_at hl 1 rfl) ?_
  refine lv_if_ge (tgt := 15) hx hb dX9_needNth_1 (by decide) (fun c1 => ?_) (fun c1 => absurd (Int32.le_iff_toInt_le.mpr (show (0 : Int) ≤ x0.toInt by omega)) c1)
  have hP9 := hP.sub (ws' := []) [] rfl
  have hD9 := hD.sub (ws' := []) [] (by decide) rfl
  have hK9 := hK.sub (tys' := []) [] rfl
  refine W.widen (k := 0) (n := 0) (Nat.le_of_ble_eq_true rfl) (Nat.le_of_ble_eq_true rfl) ?_
  exact W.vret hx hb hr (fun t ht hW => ⟨⟨(), rfl, trivial, by rw [ht]; exact hP9, va_K.moved hW.alike hK9, hD9⟩, hS.F ht⟩) hS.2.2 dX9_needNth_15
set_option maxHeartbeats 4000000 in
set_option maxRecDepth 100000 in
theorem kX9_codeLine_2 (l : Launch) (dC : Nat → ClassId) (dI : Nat → Nat → Nat) (g : Nat → Nat) (sz : Nat) (h0 : Nat) (x0 : Int32) (h1 : Nat) (v0 : Value) (v1 : Value) (v2 : Value) (v3 : Value) (v4 : Value) (v5 : Value) (v6 : Value) (v7 : Value) (v8 : Value) (v9 : Value) (v10 : Value) (v11 : Value) (v12 : Value) (v13 : Value) (v14 : Value) (v15 : Value) (v16 : Value) (v17 : Value) (v18 : Value) (v19 : Value) (v20 : Value) (v21 : Value) (v22 : Value) (v23 : Value) (ex0 : (0 : Int) ≤ x0.toInt ∧ x0.toInt ≤ (2147483647 : Int)) : Met l yX9_codeLine wsX9_codeLine ({ frames := 1, cells := 0, slots := 0, locals := 21 }) (va_Pc [.ref h0, .int x0] (fun U => U.heap.size = sz ∧ va_P (dC, dI) vwCl [(h0, .inr (16, [v0, v1, v2, v3, v4, v5, v6, v7, v8, .ref h1, v9, v10, v11, v12, v13, v14])), (h1, .inr (14, [v15, v16, v17, v18, v19, v20, v21, v22, v23, .int (-1)]))] U.heap ∧ va_K (dC, dI) vwCl [] U ∧ va_D (fun _ => True) [(h0, .inr (16, [v0, v1, v2, v3, v4, v5, v6, v7, v8, .ref h1, v9, v10, v11, v12, v13, v14])), (h1, .inr (14, [v15, v16, v17, v18, v19, v20, v21, v22, v23, .int (-1)]))] ∧ ns_F g (va_A [(h0, .inr (16, [v0, v1, v2, v3, v4, v5, v6, v7, v8, .ref h1, v9, v10, v11, v12, v13, v14])), (h1, .inr (14, [v15, v16, v17, v18, v19, v20, v21, v22, v23, .int (-1)]))] sz) U U.heap)) (va_Qr (fun _ : Unit => True) (fun _ r t => r = (g 20) ∧ va_P (dC, dI) vwCl [(h0, .inr (16, [v0, v1, v2, v3, v4, v5, v6, v7, v8, .ref h1, v9, v10, v11, v12, v13, v14])), (h1, .inr (14, [v15, v16, v17, v18, v19, v20, v21, v22, v23, .int (-1)]))] t.heap ∧ va_K (dC, dI) vwCl [] t ∧ va_D (va_A [(h0, .inr (16, [v0, v1, v2, v3, v4, v5, v6, v7, v8, .ref h1, v9, v10, v11, v12, v13, v14])), (h1, .inr (14, [v15, v16, v17, v18, v19, v20, v21, v22, v23, .int (-1)]))] sz) [(h0, .inr (16, [v0, v1, v2, v3, v4, v5, v6, v7, v8, .ref h1, v9, v10, v11, v12, v13, v14])), (h1, .inr (14, [v15, v16, v17, v18, v19, v20, v21, v22, v23, .int (-1)]))]) (va_A [(h0, .inr (16, [v0, v1, v2, v3, v4, v5, v6, v7, v8, .ref h1, v9, v10, v11, v12, v13, v14])), (h1, .inr (14, [v15, v16, v17, v18, v19, v20, v21, v22, v23, .int (-1)]))] sz)) 0 0 (va_A [(h0, .inr (16, [v0, v1, v2, v3, v4, v5, v6, v7, v8, .ref h1, v9, v10, v11, v12, v13, v14])), (h1, .inr (14, [v15, v16, v17, v18, v19, v20, v21, v22, v23, .int (-1)]))] sz) := by
  refine Met.ofW (cc := cX9_codeLine) (maxL := 2) (ret := (some (.object "java/lang/String"))) (by decide) rfl ?_
  intro p e s m args below meth c s₁ B hml hv
  obtain ⟨rfl, hsz, hP, hK, hD0, hF⟩ := hv
  have hx := B.exec
  have hb := B.bytes
  have hr := B.returns
  have hts := atoms_spec (ws := wsX9_codeLine) B.pre
  have hown : s.vm.findClass RX9 = some m.cls := findClass_of_methodNamed B.named
  have hlocks := B.notSynchronized
  subst hsz
  have hD := hD0.self (sz := s.heap.size)
  generalize hAe : va_A [(h0, .inr (16, [v0, v1, v2, v3, v4, v5, v6, v7, v8, .ref h1, v9, v10, v11, v12, v13, v14])), (h1, .inr (14, [v15, v16, v17, v18, v19, v20, v21, v22, v23, .int (-1)]))] s.heap.size = A at hD hF ⊢
  have hA : ∀ q : Nat, s.heap.size ≤ q → A q := fun q h => by rw [← hAe]; exact Or.inr h
  have hS : va_S A s.heap s.heap [] := va_S.rf
  have hP : va_P (dC, dI) vwCl [(h0, .inr (16, [v0, v1, v2, v3, v4, v5, v6, v7, v8, .ref h1, v9, v10, v11, v12, v13, v14])), (h1, .inr (14, [v15, v16, v17, v18, v19, v20, v21, v22, v23, .int (-1)]))] s.heap := hP
  have hl := lv_entry ([.ref h0, .int x0]) (n := 2) (Nat.le_of_ble_eq_true rfl)
  rw [lg_entry_eq]
  generalize (lg_sl ([.ref h0, .int x0]) ++ List.replicate (2 - (lg_sl ([.ref h0, .int x0])).length) Slot.unset).toArray = ls at hl ⊢
  have hl : lv_has ls 2 [(0, .ref h0), (1, .int x0)] := hl
  refine lv_aload_n hx hb dX9_codeLine_0 rfl (lv_at hl 0 rfl) ?_
  refine lv_iload_n hx hb dX9_codeLine_1 rfl (lv_at hl 1 rfl) ?_
  have hPc := hP.sub (ws' := []) [] rfl
  have hDc := hD.sub (ws' := []) [] (by decide) rfl
  have hKc := hK.sub (tys' := []) [] rfl
  have hFc := va_free (wc := []) hD hS hA [] rfl
  refine va_callv (va_runV (As := [.int x0]) (rest := []) ⟨hx, hb, hml, hown, hts⟩ (kX9_needNth_2 l dC dI g s.heap.size h0 x0 ⟨by omega, by omega⟩) (cwV 1 hts gX9_codeLine_X9_needNth rfl rfl rfl (by decide +kernel) ⟨Nat.le_of_ble_eq_true rfl, Nat.le_of_ble_eq_true rfl⟩) ⟨fun a U gg mk q => by obtain ⟨q0, q1, qP, qK, qD, qF⟩ := q; exact ⟨q0, q1, qP, va_K.moved (u := U) (U := U.calling gg mk a) (Vm.Alike.refl U.vm) qK, qD, ns_same qF⟩, va_recv hK hP (ci := 16) (q0 := 0) rfl rfl, fun U hU hW => ⟨rfl, by rw [hU], by rw [hU]; exact hPc, va_K.moved hW.alike hKc, hDc.weaken (fun _ _ _ _ => trivial), ns_call hF hS hFc hU hW⟩⟩ rfl rfl hl.1 rfl (lv_room (Nat.le_of_ble_eq_true rfl)) dX9_codeLine_2 ⟨Nat.le_of_ble_eq_true rfl, Nat.le_of_ble_eq_true rfl⟩) hS (fun q _ h => hFc q h) hFc (fun u t H1 locs ht hvm hw hB hz1 hk1 hS => ?_)
  obtain ⟨hP1, hK1, hD1⟩ := hB
  rw [ht] at hP1
  have hK1 := va_K.moved hvm.symm hK1
  obtain ⟨hP, hD⟩ := va_join (wr := [(h0, .inr (16, [v0, v1, v2, v3, v4, v5, v6, v7, v8, .ref h1, v9, v10, v11, v12, v13, v14])), (h1, .inr (14, [v15, v16, v17, v18, v19, v20, v21, v22, v23, .int (-1)]))]) (w1 := []) hP hD [] [0, 1] rfl rfl (by decide) (by decide) hk1 hFc hP1 hD1
  have hK := (hK.sub (tys' := []) [] rfl).app hK1
  generalize H1 = H at hP hS ⊢
  have hP : va_P (dC, dI) vwCl [(h0, .inr (16, [v0, v1, v2, v3, v4, v5, v6, v7, v8, .ref h1, v9, v10, v11, v12, v13, v14])), (h1, .inr (14, [v15, v16, v17, v18, v19, v20, v21, v22, v23, .int (-1)]))] H := hP
  have hD : va_D A [(h0, .inr (16, [v0, v1, v2, v3, v4, v5, v6, v7, v8, .ref h1, v9, v10, v11, v12, v13, v14])), (h1, .inr (14, [v15, v16, v17, v18, v19, v20, v21, v22, v23, .int (-1)]))] := hD
  have hK : va_K (dC, dI) vwCl [] s := hK
  refine W.widen (k := 0) (n := 0) (Nat.le_of_ble_eq_true rfl) (Nat.le_of_ble_eq_true rfl) ?_
  refine lv_aload_n hx hb dX9_codeLine_5 rfl (lv_at hl 0 rfl) ?_
  refine va_get (D := (dC, dI)) (ci := 16) (v := .ref h1) (C := RX9) (T := TX9) (N := 16) hx hb hts (by decide +kernel) hown hK hP 0 rfl rfl 9 (by decide) (hts (.fieldLink RX9 77 "Nestprint" "kept" "LNestprint$Tree;") (by decide +kernel)) (fun _ h9 => h9) rfl dX9_codeLine_6 ?_
  have hPc := hP.sub (ws' := [(h1, .inr (14, [v15, v16, v17, v18, v19, v20, v21, v22, v23, .int (-1)]))]) [1] rfl
  have hDc := hD.sub (ws' := [(h1, .inr (14, [v15, v16, v17, v18, v19, v20, v21, v22, v23, .int (-1)]))]) [1] (by decide) rfl
  have hKc := hK.sub (tys' := []) [] rfl
  have hFc := va_free (wc := [(h1, .inr (14, [v15, v16, v17, v18, v19, v20, v21, v22, v23, .int (-1)]))]) hD hS hA [1] rfl
  refine va_calli (va_runV (As := []) (rest := []) ⟨hx, hb, hml, hown, hts⟩ (kX7_isThere l dC dI g H.size h1 v15 v16 v17 v18 v19 v20 v21 v22 v23 ) (cwV 0 hts gX9_codeLine_X7_isThere rfl rfl rfl (by decide +kernel) ⟨Nat.le_of_ble_eq_true rfl, Nat.le_of_ble_eq_true rfl⟩) ⟨fun a U gg mk q => by obtain ⟨q0, q1, qP, qK, qD, qF⟩ := q; exact ⟨q0, q1, qP, va_K.moved (u := U) (U := U.calling gg mk a) (Vm.Alike.refl U.vm) qK, qD, ns_same qF⟩, va_recv hK hP (ci := 14) (q0 := 1) rfl rfl, fun U hU hW => ⟨rfl, by rw [hU], by rw [hU]; exact hPc, va_K.moved hW.alike hKc, hDc.weaken (fun _ _ _ _ => trivial), ns_call hF hS hFc hU hW⟩⟩ rfl rfl hl.1 rfl (lv_room (Nat.le_of_ble_eq_true rfl)) dX9_codeLine_9 ⟨Nat.le_of_ble_eq_true rfl, Nat.le_of_ble_eq_true rfl⟩) hS (fun q _ h => hFc q h) hFc (fun r9 u t H1 locs ht hvm hw hB hz1 hk1 hS => ?_)
  obtain rfl := hw
  obtain ⟨hP1, hK1, hD1⟩ := hB
  rw [ht] at hP1
  have hK1 := va_K.moved hvm.symm hK1
  obtain ⟨hP, hD⟩ := va_join (wr := [(h0, .inr (16, [v0, v1, v2, v3, v4, v5, v6, v7, v8, .ref h1, v9, v10, v11, v12, v13, v14]))]) (w1 := [(h1, .inr (14, [v15, v16, v17, v18, v19, v20, v21, v22, v23, .int (-1)]))]) hP hD [1] [0] rfl rfl (by decide) (by decide) hk1 hFc hP1 hD1
  have hK := (hK.sub (tys' := []) [] rfl).app hK1
  generalize H1 = H at hP hS ⊢
  have hP : va_P (dC, dI) vwCl [(h0, .inr (16, [v0, v1, v2, v3, v4, v5, v6, v7, v8, .ref h1, v9, v10, v11, v12, v13, v14])), (h1, .inr (14, [v15, v16, v17, v18, v19, v20, v21, v22, v23, .int (-1)]))] H := hP
  have hD : va_D A [(h0, .inr (16, [v0, v1, v2, v3, v4, v5, v6, v7, v8, .ref h1, v9, v10, v11, v12, v13, v14])), (h1, .inr (14, [v15, v16, v17, v18, v19, v20, v21, v22, v23, .int (-1)]))] := hD
  have hK : va_K (dC, dI) vwCl [] s := hK
  refine W.widen (k := 0) (n := 0) (Nat.le_of_ble_eq_true rfl) (Nat.le_of_ble_eq_true rfl) ?_
  refine lv_if_ne (tgt := 18) hx hb dX9_codeLine_12 (by decide) (fun c1 => absurd (by decide) c1) (fun c1 => ?_)
  refine va_ldcS hx hb hown (ns_f25 hF) dX9_codeLine_15 ?_
  have hP9 := hP.sub (ws' := [(h0, .inr (16, [v0, v1, v2, v3, v4, v5, v6, v7, v8, .ref h1, v9, v10, v11, v12, v13, v14])), (h1, .inr (14, [v15, v16, v17, v18, v19, v20, v21, v22, v23, .int (-1)]))]) [0, 1] rfl
  have hD9 := hD.sub (ws' := [(h0, .inr (16, [v0, v1, v2, v3, v4, v5, v6, v7, v8, .ref h1, v9, v10, v11, v12, v13, v14])), (h1, .inr (14, [v15, v16, v17, v18, v19, v20, v21, v22, v23, .int (-1)]))]) [0, 1] (by decide) rfl
  have hK9 := hK.sub (tys' := []) [] rfl
  refine W.widen (k := 0) (n := 0) (Nat.le_of_ble_eq_true rfl) (Nat.le_of_ble_eq_true rfl) ?_
  exact W.aret (v := .ref (g 20)) hx hb hr (by first | exact Or.inl ⟨_, rfl⟩ | exact Or.inr ⟨_, rfl⟩) (Or.inr ⟨_, rfl⟩) (fun t ht hW => ⟨⟨(), _, rfl, trivial, rfl, by rw [ht]; exact hP9, va_K.moved hW.alike hK9, hD9⟩, hS.F ht⟩) hS.2.2 dX9_codeLine_17
set_option maxHeartbeats 4000000 in
set_option maxRecDepth 100000 in
theorem kL_codeLine_2 (l : Launch) (dC : Nat → ClassId) (dI : Nat → Nat → Nat) (g : Nat → Nat) (sz : Nat) (h0 : Nat) (x0 : Int32) (h1 : Nat) (h2 : Nat) (v0 : Value) (v1 : Value) (v2 : Value) (v3 : Value) (v4 : Value) (v5 : Value) (v6 : Value) (v7 : Value) (v8 : Value) (v9 : Value) (v10 : Value) (v11 : Value) (v12 : Value) (v13 : Value) (v14 : Value) (v15 : Value) (v16 : Value) (v17 : Value) (v18 : Value) (v19 : Value) (v20 : Value) (v21 : Value) (v22 : Value) (v23 : Value) (v24 : Value) (v25 : Value) (ex0 : (0 : Int) ≤ x0.toInt ∧ x0.toInt ≤ (2147483647 : Int)) : Met l yL_codeLine wsL_codeLine ({ frames := 2, cells := 0, slots := 0, locals := 42 }) (va_Pc [.ref h0, .int x0, .ref h1] (fun U => U.heap.size = sz ∧ va_P (dC, dI) vwCl [(h0, .inr (16, [v0, v1, v2, v3, v4, v5, v6, v7, v8, .ref h2, v9, v10, v11, v12, v13, v14])), (h2, .inr (14, [v15, v16, v17, v18, v19, v20, v21, v22, v23, .int (-1)])), (h1, .inr (17, [v24, v25]))] U.heap ∧ va_K (dC, dI) vwCl [] U ∧ va_D (fun _ => True) [(h0, .inr (16, [v0, v1, v2, v3, v4, v5, v6, v7, v8, .ref h2, v9, v10, v11, v12, v13, v14])), (h2, .inr (14, [v15, v16, v17, v18, v19, v20, v21, v22, v23, .int (-1)])), (h1, .inr (17, [v24, v25]))] ∧ ns_F g (va_A [(h0, .inr (16, [v0, v1, v2, v3, v4, v5, v6, v7, v8, .ref h2, v9, v10, v11, v12, v13, v14])), (h2, .inr (14, [v15, v16, v17, v18, v19, v20, v21, v22, v23, .int (-1)])), (h1, .inr (17, [v24, v25]))] sz) U U.heap)) (va_Qi (fun (r : Int32) (_ : Unit) => r = 0) (fun _ t => va_P (dC, dI) vwCl [(h1, .inr (17, [v24, .ref (g 20)])), (h0, .inr (16, [v0, v1, v2, v3, v4, v5, v6, v7, v8, .ref h2, v9, v10, v11, v12, v13, v14])), (h2, .inr (14, [v15, v16, v17, v18, v19, v20, v21, v22, v23, .int (-1)]))] t.heap ∧ va_K (dC, dI) vwCl [] t ∧ va_D (va_A [(h0, .inr (16, [v0, v1, v2, v3, v4, v5, v6, v7, v8, .ref h2, v9, v10, v11, v12, v13, v14])), (h2, .inr (14, [v15, v16, v17, v18, v19, v20, v21, v22, v23, .int (-1)])), (h1, .inr (17, [v24, v25]))] sz) [(h1, .inr (17, [v24, .ref (g 20)])), (h0, .inr (16, [v0, v1, v2, v3, v4, v5, v6, v7, v8, .ref h2, v9, v10, v11, v12, v13, v14])), (h2, .inr (14, [v15, v16, v17, v18, v19, v20, v21, v22, v23, .int (-1)]))]) (va_A [(h0, .inr (16, [v0, v1, v2, v3, v4, v5, v6, v7, v8, .ref h2, v9, v10, v11, v12, v13, v14])), (h2, .inr (14, [v15, v16, v17, v18, v19, v20, v21, v22, v23, .int (-1)])), (h1, .inr (17, [v24, v25]))] sz)) 0 0 (va_A [(h0, .inr (16, [v0, v1, v2, v3, v4, v5, v6, v7, v8, .ref h2, v9, v10, v11, v12, v13, v14])), (h2, .inr (14, [v15, v16, v17, v18, v19, v20, v21, v22, v23, .int (-1)])), (h1, .inr (17, [v24, v25]))] sz) := by
  refine va_MetW (cc := cL_codeLine) (maxL := 4) (ret := (some .int)) (hh := [(0, 9, 12, 19)]) (by decide) rfl ?_
  intro p e s m args below meth c s₁ B hml hv
  obtain ⟨rfl, hsz, hP, hK, hD0, hF⟩ := hv
  have hx := B.exec
  have hb := B.bytes
  have hr := B.returns
  have hts := atoms_spec (ws := wsL_codeLine) B.pre
  have hown : s.vm.findClass RL = some m.cls := findClass_of_methodNamed B.named
  have hlocks := B.notSynchronized
  have htab : c.exceptionTable.toList = [⟨0, 9, 12, 19⟩] := vx_table B (hts _ List.mem_cons_self)
  subst hsz
  have hD := hD0.self (sz := s.heap.size)
  generalize hAe : va_A [(h0, .inr (16, [v0, v1, v2, v3, v4, v5, v6, v7, v8, .ref h2, v9, v10, v11, v12, v13, v14])), (h2, .inr (14, [v15, v16, v17, v18, v19, v20, v21, v22, v23, .int (-1)])), (h1, .inr (17, [v24, v25]))] s.heap.size = A at hD hF ⊢
  have hA : ∀ q : Nat, s.heap.size ≤ q → A q := fun q h => by rw [← hAe]; exact Or.inr h
  have hS : va_S A s.heap s.heap [] := va_S.rf
  have hP : va_P (dC, dI) vwCl [(h0, .inr (16, [v0, v1, v2, v3, v4, v5, v6, v7, v8, .ref h2, v9, v10, v11, v12, v13, v14])), (h2, .inr (14, [v15, v16, v17, v18, v19, v20, v21, v22, v23, .int (-1)])), (h1, .inr (17, [v24, v25]))] s.heap := hP
  have hl := lv_entry ([.ref h0, .int x0, .ref h1]) (n := 4) (Nat.le_of_ble_eq_true rfl)
  rw [lg_entry_eq]
  generalize (lg_sl ([.ref h0, .int x0, .ref h1]) ++ List.replicate (4 - (lg_sl ([.ref h0, .int x0, .ref h1])).length) Slot.unset).toArray = ls at hl ⊢
  have hl : lv_has ls 4 [(0, .ref h0), (1, .int x0), (2, .ref h1)] := hl
  refine lv_aload_n hx hb dL_codeLine_0 rfl (lv_at hl 2 rfl) ?_
  refine lv_aload_n hx hb dL_codeLine_1 rfl (lv_at hl 0 rfl) ?_
  refine lv_iload_n hx hb dL_codeLine_2 rfl (lv_at hl 1 rfl) ?_
  have hPc := hP.sub (ws' := [(h0, .inr (16, [v0, v1, v2, v3, v4, v5, v6, v7, v8, .ref h2, v9, v10, v11, v12, v13, v14])), (h2, .inr (14, [v15, v16, v17, v18, v19, v20, v21, v22, v23, .int (-1)]))]) [0, 1] rfl
  have hDc := hD.sub (ws' := [(h0, .inr (16, [v0, v1, v2, v3, v4, v5, v6, v7, v8, .ref h2, v9, v10, v11, v12, v13, v14])), (h2, .inr (14, [v15, v16, v17, v18, v19, v20, v21, v22, v23, .int (-1)]))]) [0, 1] (by decide) rfl
  have hKc := hK.sub (tys' := []) [] rfl
  have hFc := va_free (wc := [(h0, .inr (16, [v0, v1, v2, v3, v4, v5, v6, v7, v8, .ref h2, v9, v10, v11, v12, v13, v14])), (h2, .inr (14, [v15, v16, v17, v18, v19, v20, v21, v22, v23, .int (-1)]))]) hD hS hA [0, 1] rfl
  refine va_callr (va_runV (As := [.int x0]) (rest := [.ref h1]) ⟨hx, hb, hml, hown, hts⟩ (kX9_codeLine_2 l dC dI g s.heap.size h0 x0 h2 v0 v1 v2 v3 v4 v5 v6 v7 v8 v9 v10 v11 v12 v13 v14 v15 v16 v17 v18 v19 v20 v21 v22 v23 ⟨by omega, by omega⟩) (cwV 1 hts gL_codeLine_X9_codeLine rfl rfl rfl (by decide +kernel) ⟨Nat.le_of_ble_eq_true rfl, Nat.le_of_ble_eq_true rfl⟩) ⟨fun a U gg mk q => by obtain ⟨q0, q1, qP, qK, qD, qF⟩ := q; exact ⟨q0, q1, qP, va_K.moved (u := U) (U := U.calling gg mk a) (Vm.Alike.refl U.vm) qK, qD, ns_same qF⟩, va_recv hK hP (ci := 16) (q0 := 0) rfl rfl, fun U hU hW => ⟨rfl, by rw [hU], by rw [hU]; exact hPc, va_K.moved hW.alike hKc, hDc.weaken (fun _ _ _ _ => trivial), ns_call hF hS hFc hU hW⟩⟩ rfl rfl hl.1 rfl (lv_room (Nat.le_of_ble_eq_true rfl)) dL_codeLine_3 ⟨Nat.le_of_ble_eq_true rfl, Nat.le_of_ble_eq_true rfl⟩) hS (fun q _ h => hFc q h) hFc (fun u r9 t H1 locs ht hvm hw hB hz1 hk1 hS => ?_)
  obtain ⟨rfl, hP1, hK1, hD1⟩ := hB
  rw [ht] at hP1
  have hK1 := va_K.moved hvm.symm hK1
  obtain ⟨hP, hD⟩ := va_join (wr := [(h1, .inr (17, [v24, v25]))]) (w1 := [(h0, .inr (16, [v0, v1, v2, v3, v4, v5, v6, v7, v8, .ref h2, v9, v10, v11, v12, v13, v14])), (h2, .inr (14, [v15, v16, v17, v18, v19, v20, v21, v22, v23, .int (-1)]))]) hP hD [0, 1] [2] rfl rfl (by decide) (by decide) hk1 hFc hP1 hD1
  have hK := (hK.sub (tys' := []) [] rfl).app hK1
  generalize H1 = H at hP hS ⊢
  have hP : va_P (dC, dI) vwCl [(h1, .inr (17, [v24, v25])), (h0, .inr (16, [v0, v1, v2, v3, v4, v5, v6, v7, v8, .ref h2, v9, v10, v11, v12, v13, v14])), (h2, .inr (14, [v15, v16, v17, v18, v19, v20, v21, v22, v23, .int (-1)]))] H := hP
  have hD : va_D A [(h1, .inr (17, [v24, v25])), (h0, .inr (16, [v0, v1, v2, v3, v4, v5, v6, v7, v8, .ref h2, v9, v10, v11, v12, v13, v14])), (h2, .inr (14, [v15, v16, v17, v18, v19, v20, v21, v22, v23, .int (-1)]))] := hD
  have hK : va_K (dC, dI) vwCl [] s := hK
  refine W.widen (k := 0) (n := 0) (Nat.le_of_ble_eq_true rfl) (Nat.le_of_ble_eq_true rfl) ?_
  refine va_putN (D := (dC, dI)) (ci := 17) (v := .ref (g 20)) (ty := .object "java/lang/String") (C := RX10) (T := TX10) (N := 2) hx hb hts (by decide +kernel) tyX10 tyX10_ok nmX10 hown hK hP hD hS 0 rfl rfl 1 (by decide) (va_Nw.use rfl (ns_f8 hF)) (fun _ h9 => h9) rfl (by decide +kernel) rfl rfl (Nat.le_of_ble_eq_true rfl) dL_codeLine_6 (fun H locs hP hD hS => ?_)
  have hP : va_P (dC, dI) vwCl [(h1, .inr (17, [v24, .ref (g 20)])), (h0, .inr (16, [v0, v1, v2, v3, v4, v5, v6, v7, v8, .ref h2, v9, v10, v11, v12, v13, v14])), (h2, .inr (14, [v15, v16, v17, v18, v19, v20, v21, v22, v23, .int (-1)]))] H := hP
  have hD : va_D A [(h1, .inr (17, [v24, .ref (g 20)])), (h0, .inr (16, [v0, v1, v2, v3, v4, v5, v6, v7, v8, .ref h2, v9, v10, v11, v12, v13, v14])), (h2, .inr (14, [v15, v16, v17, v18, v19, v20, v21, v22, v23, .int (-1)]))] := hD
  refine lv_goto (tgt := 15) hx hb dL_codeLine_9 (by decide) ?_
  refine lv_iconst (v := 0) hx hb dL_codeLine_15 (by decide) ?_
  have hP9 := hP.sub (ws' := [(h1, .inr (17, [v24, .ref (g 20)])), (h0, .inr (16, [v0, v1, v2, v3, v4, v5, v6, v7, v8, .ref h2, v9, v10, v11, v12, v13, v14])), (h2, .inr (14, [v15, v16, v17, v18, v19, v20, v21, v22, v23, .int (-1)]))]) [0, 1, 2] rfl
  have hD9 := hD.sub (ws' := [(h1, .inr (17, [v24, .ref (g 20)])), (h0, .inr (16, [v0, v1, v2, v3, v4, v5, v6, v7, v8, .ref h2, v9, v10, v11, v12, v13, v14])), (h2, .inr (14, [v15, v16, v17, v18, v19, v20, v21, v22, v23, .int (-1)]))]) [0, 1, 2] (by decide) rfl
  have hK9 := hK.sub (tys' := []) [] rfl
  refine W.widen (k := 0) (n := 0) (Nat.le_of_ble_eq_true rfl) (Nat.le_of_ble_eq_true rfl) ?_
  exact W.iret (v := 0) hx hb hr (fun t ht hW => ⟨⟨_, (), rfl, rfl, by rw [ht]; exact hP9, va_K.moved hW.alike hK9, hD9⟩, hS.F ht⟩) hS.2.2 dL_codeLine_16
set_option maxHeartbeats 4000000 in
set_option maxRecDepth 100000 in
theorem kX16_codeLine_2 (l : Launch) (dC : Nat → ClassId) (dI : Nat → Nat → Nat) (g : Nat → Nat) (sz : Nat) (h0 : Nat) (x0 : Int32) (v0 : Value) (v1 : Value) (v2 : Value) (v3 : Value) (v4 : Value) (v5 : Value) (v6 : Value) (v7 : Value) (ex0 : (0 : Int) ≤ x0.toInt ∧ x0.toInt ≤ (2147483647 : Int)) : Met l yX16_codeLine wsX16_codeLine ({ frames := 2, cells := 0, slots := 0, locals := 44 }) (va_Pc [.ref h0, .int x0] (fun U => U.heap.size = sz ∧ va_P (dC, dI) vwCl [(h0, .inr (23, [v0, v1, v2, v3, v4, .null, v5, v6, v7]))] U.heap ∧ va_K (dC, dI) vwCl [] U ∧ va_D (fun _ => True) [(h0, .inr (23, [v0, v1, v2, v3, v4, .null, v5, v6, v7]))] ∧ ns_F g (va_A [(h0, .inr (23, [v0, v1, v2, v3, v4, .null, v5, v6, v7]))] sz) U U.heap)) (va_Qr (fun _ : Unit => True) (fun _ r t => r = (g 20) ∧ va_P (dC, dI) vwCl [(h0, .inr (23, [.int 0, v1, v2, v3, v4, .null, v5, v6, v7]))] t.heap ∧ va_K (dC, dI) vwCl [] t ∧ va_D (va_A [(h0, .inr (23, [v0, v1, v2, v3, v4, .null, v5, v6, v7]))] sz) [(h0, .inr (23, [.int 0, v1, v2, v3, v4, .null, v5, v6, v7]))]) (va_A [(h0, .inr (23, [v0, v1, v2, v3, v4, .null, v5, v6, v7]))] sz)) 0 0 (va_A [(h0, .inr (23, [v0, v1, v2, v3, v4, .null, v5, v6, v7]))] sz) := by
  refine Met.ofW (cc := cX16_codeLine) (maxL := 2) (ret := (some (.object "java/lang/String"))) (by decide) rfl ?_
  intro p e s m args below meth c s₁ B hml hv
  obtain ⟨rfl, hsz, hP, hK, hD0, hF⟩ := hv
  have hx := B.exec
  have hb := B.bytes
  have hr := B.returns
  have hts := atoms_spec (ws := wsX16_codeLine) B.pre
  have hown : s.vm.findClass RX16 = some m.cls := findClass_of_methodNamed B.named
  have hlocks := B.notSynchronized
  subst hsz
  have hD := hD0.self (sz := s.heap.size)
  generalize hAe : va_A [(h0, .inr (23, [v0, v1, v2, v3, v4, .null, v5, v6, v7]))] s.heap.size = A at hD hF ⊢
  have hA : ∀ q : Nat, s.heap.size ≤ q → A q := fun q h => by rw [← hAe]; exact Or.inr h
  have hS : va_S A s.heap s.heap [] := va_S.rf
  have hP : va_P (dC, dI) vwCl [(h0, .inr (23, [v0, v1, v2, v3, v4, .null, v5, v6, v7]))] s.heap := hP
  have hl := lv_entry ([.ref h0, .int x0]) (n := 2) (Nat.le_of_ble_eq_true rfl)
  rw [lg_entry_eq]
  generalize (lg_sl ([.ref h0, .int x0]) ++ List.replicate (2 - (lg_sl ([.ref h0, .int x0])).length) Slot.unset).toArray = ls at hl ⊢
  have hl : lv_has ls 2 [(0, .ref h0), (1, .int x0)] := hl
  refine lv_aload_n hx hb dX16_codeLine_0 rfl (lv_at hl 0 rfl) ?_
  refine lv_iload_n hx hb dX16_codeLine_1 rfl (lv_at hl 1 rfl) ?_
  refine lv_if_ge (tgt := 9) hx hb dX16_codeLine_2 (by decide) (fun c1 => ?_) (fun c1 => absurd (Int32.le_iff_toInt_le.mpr (show (0 : Int) ≤ x0.toInt by omega)) c1)
  refine lv_iconst (v := 0) hx hb dX16_codeLine_9 (by decide) ?_
  refine lv_iconst (v := 1) hx hb dX16_codeLine_10 (by decide) ?_
  have hPc := hP.sub (ws' := [(h0, .inr (23, [v0, v1, v2, v3, v4, .null, v5, v6, v7]))]) [0] rfl
  have hDc := hD.sub (ws' := [(h0, .inr (23, [v0, v1, v2, v3, v4, .null, v5, v6, v7]))]) [0] (by decide) rfl
  have hKc := hK.sub (tys' := []) [] rfl
  have hFc := va_free (wc := [(h0, .inr (23, [v0, v1, v2, v3, v4, .null, v5, v6, v7]))]) hD hS hA [0] rfl
  refine va_calli (va_runV (As := [.int 0, .int 1]) (rest := []) ⟨hx, hb, hml, hown, hts⟩ (kX16_start_2 l dC dI g s.heap.size h0 v0 v1 v2 v3 v4 .null v5 v6 v7 ) (cwV 2 hts gX16_codeLine_X16_start rfl rfl rfl (by decide +kernel) ⟨Nat.le_of_ble_eq_true rfl, Nat.le_of_ble_eq_true rfl⟩) ⟨fun a U gg mk q => by obtain ⟨q0, q1, qP, qK, qD, qF⟩ := q; exact ⟨q0, q1, qP, va_K.moved (u := U) (U := U.calling gg mk a) (Vm.Alike.refl U.vm) qK, qD, ns_same qF⟩, va_recv hK hP (ci := 23) (q0 := 0) rfl rfl, fun U hU hW => ⟨rfl, by rw [hU], by rw [hU]; exact hPc, va_K.moved hW.alike hKc, hDc.weaken (fun _ _ _ _ => trivial), ns_call hF hS hFc hU hW⟩⟩ rfl rfl hl.1 rfl (lv_room (Nat.le_of_ble_eq_true rfl)) dX16_codeLine_11 ⟨Nat.le_of_ble_eq_true rfl, Nat.le_of_ble_eq_true rfl⟩) hS (fun q _ h => hFc q h) hFc (fun r9 u t H1 locs ht hvm hw hB hz1 hk1 hS => ?_)
  obtain rfl := hw
  obtain ⟨hP1, hK1, hD1⟩ := hB
  rw [ht] at hP1
  have hK1 := va_K.moved hvm.symm hK1
  obtain ⟨hP, hD⟩ := va_join (wr := []) (w1 := [(h0, .inr (23, [.int 0, v1, v2, v3, v4, .null, v5, v6, v7]))]) hP hD [0] [] rfl rfl (by decide) (by decide) hk1 hFc hP1 hD1
  have hK := (hK.sub (tys' := []) [] rfl).app hK1
  generalize H1 = H at hP hS ⊢
  have hP : va_P (dC, dI) vwCl [(h0, .inr (23, [.int 0, v1, v2, v3, v4, .null, v5, v6, v7]))] H := hP
  have hD : va_D A [(h0, .inr (23, [.int 0, v1, v2, v3, v4, .null, v5, v6, v7]))] := hD
  have hK : va_K (dC, dI) vwCl [] s := hK
  refine W.widen (k := 0) (n := 0) (Nat.le_of_ble_eq_true rfl) (Nat.le_of_ble_eq_true rfl) ?_
  refine lv_if_eq (tgt := 22) hx hb dX16_codeLine_14 (by decide) (fun c2 => ?_) (fun c2 => absurd (by decide) c2)
  refine lv_aload_n hx hb dX16_codeLine_22 rfl (lv_at hl 0 rfl) ?_
  refine va_get (D := (dC, dI)) (ci := 23) (v := .null) (C := RX16) (T := TX16) (N := 9) hx hb hts (by decide +kernel) hown hK hP 0 rfl rfl 5 (by decide) (hts (.fieldLink RX16 262 "NestprintModel" "kept" "LNestprintModel$Tree;") (by decide +kernel)) (fun _ h9 => h9) rfl dX16_codeLine_23 ?_
  refine lv_ifnonnullN hx hb dX16_codeLine_26 ?_
  refine va_ldcS hx hb hown (ns_f33 hF) dX16_codeLine_29 ?_
  refine lv_goto (tgt := 50) hx hb dX16_codeLine_32 (by decide) ?_
  have hP9 := hP.sub (ws' := [(h0, .inr (23, [.int 0, v1, v2, v3, v4, .null, v5, v6, v7]))]) [0] rfl
  have hD9 := hD.sub (ws' := [(h0, .inr (23, [.int 0, v1, v2, v3, v4, .null, v5, v6, v7]))]) [0] (by decide) rfl
  have hK9 := hK.sub (tys' := []) [] rfl
  refine W.widen (k := 0) (n := 0) (Nat.le_of_ble_eq_true rfl) (Nat.le_of_ble_eq_true rfl) ?_
  exact W.aret (v := .ref (g 20)) hx hb hr (by first | exact Or.inl ⟨_, rfl⟩ | exact Or.inr ⟨_, rfl⟩) (Or.inr ⟨_, rfl⟩) (fun t ht hW => ⟨⟨(), _, rfl, trivial, rfl, by rw [ht]; exact hP9, va_K.moved hW.alike hK9, hD9⟩, hS.F ht⟩) hS.2.2 dX16_codeLine_50
set_option maxHeartbeats 4000000 in
set_option maxRecDepth 100000 in
theorem kJ0_equals_9ea2d_2 (l : Launch) (dC : Nat → ClassId) (dI : Nat → Nat → Nat) (g : Nat → Nat) (sz : Nat)  : Met l yJ0_equals_9ea2d wsJ0_equals_9ea2d ({ frames := 0, cells := 0, slots := 0, locals := 0 }) (va_Pc [.ref (g 20), .ref (g 20)] (fun U => U.heap.size = sz ∧ va_P (dC, dI) vwCl [] U.heap ∧ va_K (dC, dI) vwCl [] U ∧ va_D (fun _ => True) [] ∧ ns_F g (va_A [] sz) U U.heap)) (va_Qi (fun (r : Int32) (_ : Unit) => r = 1) (fun _ t => va_P (dC, dI) vwCl [] t.heap ∧ va_K (dC, dI) vwCl [] t ∧ va_D (va_A [] sz) []) (va_A [] sz)) 0 0 (va_A [] sz) := by
  refine Met.ofW (cc := cJ0_equals_9ea2d) (maxL := 3) (ret := (some .boolean)) (by decide) rfl ?_
  intro p e s m args below meth c s₁ B hml hv
  obtain ⟨rfl, hsz, hP, hK, hD0, hF⟩ := hv
  have hx := B.exec
  have hb := B.bytes
  have hr := B.returns
  have hts := atoms_spec (ws := wsJ0_equals_9ea2d) B.pre
  have hown : s.vm.findClass RJ0 = some m.cls := findClass_of_methodNamed B.named
  have hlocks := B.notSynchronized
  subst hsz
  have hD := hD0.self (sz := s.heap.size)
  generalize hAe : va_A [] s.heap.size = A at hD hF ⊢
  have hA : ∀ q : Nat, s.heap.size ≤ q → A q := fun q h => by rw [← hAe]; exact Or.inr h
  have hS : va_S A s.heap s.heap [] := va_S.rf
  have hP : va_P (dC, dI) vwCl [] s.heap := hP
  have hl := lv_entry ([.ref (g 20), .ref (g 20)]) (n := 3) (Nat.le_of_ble_eq_true rfl)
  rw [lg_entry_eq]
  generalize (lg_sl ([.ref (g 20), .ref (g 20)]) ++ List.replicate (3 - (lg_sl ([.ref (g 20), .ref (g 20)])).length) Slot.unset).toArray = ls at hl ⊢
  have hl : lv_has ls 3 [(0, .ref (g 20)), (1, .ref (g 20))] := hl
  refine lv_aload_n hx hb dJ0_equals_9ea2d_0 rfl (lv_at hl 0 rfl) ?_
  refine lv_aload_n hx hb dJ0_equals_9ea2d_1 rfl (lv_at hl 1 rfl) ?_
  refine lv_acmp_ne (rx := (some (g 20))) (ry := (some (g 20))) (tgt := 7) hx hb dJ0_equals_9ea2d_2 (by decide) (fun c1 => absurd rfl c1) (fun c1 => ?_)
  refine lv_iconst (v := 1) hx hb dJ0_equals_9ea2d_5 (by decide) ?_
  have hP9 := hP.sub (ws' := []) [] rfl
  have hD9 := hD.sub (ws' := []) [] (by decide) rfl
  have hK9 := hK.sub (tys' := []) [] rfl
  refine W.widen (k := 0) (n := 0) (Nat.le_of_ble_eq_true rfl) (Nat.le_of_ble_eq_true rfl) ?_
  exact W.zret (v := 1) hx hb hr (by decide) (fun t ht hW => ⟨⟨_, (), rfl, rfl, by rw [ht]; exact hP9, va_K.moved hW.alike hK9, hD9⟩, hS.F ht⟩) hS.2.2 dJ0_equals_9ea2d_6
set_option maxHeartbeats 4000000 in
set_option maxRecDepth 100000 in
theorem kX9_house (l : Launch) (dC : Nat → ClassId) (dI : Nat → Nat → Nat) (g : Nat → Nat) (sz : Nat) (h0 : Nat) (x0 : Int32) (ex0 : (-2147483648 : Int) ≤ x0.toInt ∧ x0.toInt ≤ (-1 : Int)) (hlt : l.stackTraces = false) : vx_Met l yX9_house wsX9_house ({ frames := 6, cells := 1, slots := 6, locals := 82 }) (va_Pc [.ref h0, .int x0] (fun U => U.heap.size = sz ∧ va_P (dC, dI) vwCl [] U.heap ∧ va_K (dC, dI) vwCl [] U ∧ va_D (fun _ => True) [] ∧ ns_F g (va_A [] sz) U U.heap)) (va_Qv (fun _ : Unit => False) (fun _ _ => True) (va_A [] sz)) (vx_X (fun _ : Unit => True) (fun E _ _ => E = "java/lang/IllegalArgumentException") (va_A [] sz)) 1 6 (va_A [] sz) := by
  refine vx_ofW (cc := cX9_house) (maxL := 2) (ret := (some .int)) (by decide) rfl ?_
  intro p e s m args below meth c s₁ B hml hnox hv
  obtain ⟨rfl, hsz, hP, hK, hD0, hF⟩ := hv
  have hx := B.exec
  have hb := B.bytes
  have hr := B.returns
  have hts := atoms_spec (ws := wsX9_house) B.pre
  have hown : s.vm.findClass RX9 = some m.cls := findClass_of_methodNamed B.named
  have hlocks := B.notSynchronized
  subst hsz
  have hD := hD0.self (sz := s.heap.size)
  generalize hAe : va_A [] s.heap.size = A at hD hF ⊢
  have hA : ∀ q : Nat, s.heap.size ≤ q → A q := fun q h => by rw [← hAe]; exact Or.inr h
  have hS : va_S A s.heap s.heap [] := va_S.rf
  have hP : va_P (dC, dI) vwCl [] s.heap := hP
  have hl := lv_entry ([.ref h0, .int x0]) (n := 2) (Nat.le_of_ble_eq_true rfl)
  rw [lg_entry_eq]
  generalize (lg_sl ([.ref h0, .int x0]) ++ List.replicate (2 - (lg_sl ([.ref h0, .int x0])).length) Slot.unset).toArray = ls at hl ⊢
  have hl : lv_has ls 2 [(0, .ref h0), (1, .int x0)] := hl
  refine lv_iload_n hx hb dX9_house_0 rfl (lv_at hl 1 rfl) ?_
  refine lv_if_lt (tgt := 10) hx hb dX9_house_1 (by decide) (fun c1 => ?_) (fun c1 => absurd (Int32.lt_iff_toInt_lt.mpr (show x0.toInt < (0 : Int) by omega)) c1)
  exact vx_throwS hx hb hlt (text := "what is 0 to 7") (sa := (g 18)) (names := ["java/lang/RuntimeException", "java/lang/Exception"]) hown (by decide) (by decide) (hts (.classLink RX9 100 "java/lang/IllegalArgumentException") (by decide +kernel)) (hts (.initialized "java/lang/IllegalArgumentException") (by decide +kernel)) (ns_f24 hF) (vx_hat (B := [.declares ⟨"java/lang/RuntimeException", "<init>", "(Ljava/lang/String;)V"⟩, .declares ⟨"java/lang/Exception", "<init>", "(Ljava/lang/String;)V"⟩, .declares ⟨"java/lang/Throwable", "<init>", "(Ljava/lang/String;)V"⟩, .castable "java/lang/IllegalArgumentException" "java/lang/IllegalArgumentException"]) (fun w9 h9 => hts w9 (List.mem_cons_of_mem _ ((fun h9 => List.mem_append_left _ (List.mem_append_right _ h9)) h9))) (by decide +kernel) (vx_c (va_Nw.use rfl (ns_f12 hF)) (vx_c (va_Nw.use rfl (ns_f13 hF)) (vx_c (va_Nw.use rfl (ns_f14 hF)) (vx_c (va_Nw.use rfl (ns_f11 hF)) vx_n))))) (by decide +kernel) (ns_f17 hF) (ns_f18 hF) hS (by rw [hml]; exact hl.1) dX9_house_10 dX9_house_13 dX9_house_14 dX9_house_16 dX9_house_19 (fun x hx => (hnox x hx).elim) (Nat.le_of_ble_eq_true rfl) (Nat.le_of_ble_eq_true rfl) (Nat.le_of_ble_eq_true rfl) (Nat.le_of_ble_eq_true rfl) hlocks (fun t9 hal hsz9 hk9 => ⟨(), trivial, rfl, Nat.le_trans hS.1 hsz9, fun q hq1 hq2 => (hk9 q (Nat.lt_of_lt_of_le hq1 hS.1)).trans (hS.2.1 q hq1 hq2)⟩) hS.2.2 (Nat.le_of_ble_eq_true rfl) (Nat.le_of_ble_eq_true rfl)
set_option maxHeartbeats 4000000 in
set_option maxRecDepth 100000 in
theorem kL_house (l : Launch) (dC : Nat → ClassId) (dI : Nat → Nat → Nat) (g : Nat → Nat) (sz : Nat) (h0 : Nat) (x0 : Int32) (h1 : Nat) (v0 : Value) (v1 : Value) (v2 : Value) (v3 : Value) (v4 : Value) (v5 : Value) (v6 : Value) (v7 : Value) (v8 : Value) (v9 : Value) (v10 : Value) (v11 : Value) (v12 : Value) (v13 : Value) (v14 : Value) (v15 : Value) (ex0 : (-2147483648 : Int) ≤ x0.toInt ∧ x0.toInt ≤ (-1 : Int)) (hlt : l.stackTraces = false) : Met l yL_house wsL_house ({ frames := 7, cells := 1, slots := 6, locals := 103 }) (va_Pc [.ref h0, .int x0, .ref h1] (fun U => U.heap.size = sz ∧ va_P (dC, dI) vwCl [(h0, .inr (16, [v0, v1, v2, v3, v4, v5, v6, v7, v8, v9, v10, v11, v12, v13, v14, v15]))] U.heap ∧ va_K (dC, dI) vwCl [] U ∧ va_D (fun _ => True) [(h0, .inr (16, [v0, v1, v2, v3, v4, v5, v6, v7, v8, v9, v10, v11, v12, v13, v14, v15]))] ∧ ns_F g (va_A [(h0, .inr (16, [v0, v1, v2, v3, v4, v5, v6, v7, v8, v9, v10, v11, v12, v13, v14, v15]))] sz) U U.heap)) (va_Qi (fun (r : Int32) (_ : Unit) => r = 1) (fun _ t => va_P (dC, dI) vwCl [(h0, .inr (16, [v0, v1, v2, v3, v4, v5, v6, v7, v8, v9, v10, v11, v12, v13, v14, v15]))] t.heap ∧ va_K (dC, dI) vwCl [] t ∧ va_D (va_A [(h0, .inr (16, [v0, v1, v2, v3, v4, v5, v6, v7, v8, v9, v10, v11, v12, v13, v14, v15]))] sz) [(h0, .inr (16, [v0, v1, v2, v3, v4, v5, v6, v7, v8, v9, v10, v11, v12, v13, v14, v15]))]) (va_A [(h0, .inr (16, [v0, v1, v2, v3, v4, v5, v6, v7, v8, v9, v10, v11, v12, v13, v14, v15]))] sz)) 1 6 (va_A [(h0, .inr (16, [v0, v1, v2, v3, v4, v5, v6, v7, v8, v9, v10, v11, v12, v13, v14, v15]))] sz) := by
  refine va_MetW (cc := cL_house) (maxL := 4) (ret := (some .int)) (hh := [(0, 10, 13, 19)]) (by decide) rfl ?_
  intro p e s m args below meth c s₁ B hml hv
  obtain ⟨rfl, hsz, hP, hK, hD0, hF⟩ := hv
  have hx := B.exec
  have hb := B.bytes
  have hr := B.returns
  have hts := atoms_spec (ws := wsL_house) B.pre
  have hown : s.vm.findClass RL = some m.cls := findClass_of_methodNamed B.named
  have hlocks := B.notSynchronized
  have htab : c.exceptionTable.toList = [⟨0, 10, 13, 19⟩] := vx_table B (hts _ List.mem_cons_self)
  subst hsz
  have hD := hD0.self (sz := s.heap.size)
  generalize hAe : va_A [(h0, .inr (16, [v0, v1, v2, v3, v4, v5, v6, v7, v8, v9, v10, v11, v12, v13, v14, v15]))] s.heap.size = A at hD hF ⊢
  have hA : ∀ q : Nat, s.heap.size ≤ q → A q := fun q h => by rw [← hAe]; exact Or.inr h
  have hS : va_S A s.heap s.heap [] := va_S.rf
  have hP : va_P (dC, dI) vwCl [(h0, .inr (16, [v0, v1, v2, v3, v4, v5, v6, v7, v8, v9, v10, v11, v12, v13, v14, v15]))] s.heap := hP
  have hl := lv_entry ([.ref h0, .int x0, .ref h1]) (n := 4) (Nat.le_of_ble_eq_true rfl)
  rw [lg_entry_eq]
  generalize (lg_sl ([.ref h0, .int x0, .ref h1]) ++ List.replicate (4 - (lg_sl ([.ref h0, .int x0, .ref h1])).length) Slot.unset).toArray = ls at hl ⊢
  have hl : lv_has ls 4 [(0, .ref h0), (1, .int x0), (2, .ref h1)] := hl
  refine lv_aload_n hx hb dL_house_0 rfl (lv_at hl 2 rfl) ?_
  refine lv_aload_n hx hb dL_house_1 rfl (lv_at hl 0 rfl) ?_
  refine lv_iload_n hx hb dL_house_2 rfl (lv_at hl 1 rfl) ?_
  have hPc := hP.sub (ws' := []) [] rfl
  have hDc := hD.sub (ws' := []) [] (by decide) rfl
  have hKc := hK.sub (tys' := []) [] rfl
  have hFc := va_free (wc := []) hD hS hA [] rfl
  refine vx_callv (vx_runV (As := [.int x0]) (rest := [.ref h1]) ⟨hx, hb, hml, hown, hts⟩ (kX9_house l dC dI g s.heap.size h0 x0 ⟨by omega, by omega⟩ hlt) (cwV 1 hts gL_house_X9_house rfl rfl rfl (by decide +kernel) ⟨Nat.le_of_ble_eq_true rfl, Nat.le_of_ble_eq_true rfl⟩) ⟨fun a U gg mk q => by obtain ⟨q0, q1, qP, qK, qD, qF⟩ := q; exact ⟨q0, q1, qP, va_K.moved (u := U) (U := U.calling gg mk a) (Vm.Alike.refl U.vm) qK, qD, ns_same qF⟩, va_recv hK hP (ci := 16) (q0 := 0) rfl rfl, fun U hU hW => ⟨rfl, by rw [hU], by rw [hU]; exact hPc, va_K.moved hW.alike hKc, hDc.weaken (fun _ _ _ _ => trivial), ns_call hF hS hFc hU hW⟩⟩ rfl rfl hl.1 rfl (lv_room (Nat.le_of_ble_eq_true rfl)) dL_house_3 ⟨Nat.le_of_ble_eq_true rfl, Nat.le_of_ble_eq_true rfl⟩) hS (fun q _ h => hFc q h) hFc (fun q _ h => hFc q h) (fun E ce q9 u t H1 locs ht hvm hw hB hz1 hk1 hS hc1 hc2 hc3 => ?_) (fun _ _ _ _ _ _ hw _ _ _ _ => False.elim hw)
  obtain rfl : E = "java/lang/IllegalArgumentException" := hB
  obtain ⟨hP, hD⟩ := va_join (wr := [(h0, .inr (16, [v0, v1, v2, v3, v4, v5, v6, v7, v8, v9, v10, v11, v12, v13, v14, v15]))]) (w1 := []) hP hD [] [0] rfl rfl (by decide) (by decide) hk1 hFc (fun k q h => by simp at h) ⟨fun i j p q h => by simp at h, fun k q h => by simp at h⟩
  have hK := hK.sub (tys' := []) [] rfl
  generalize H1 = H at hP hS hc1 ⊢
  have hP : va_P (dC, dI) vwCl [(h0, .inr (16, [v0, v1, v2, v3, v4, v5, v6, v7, v8, v9, v10, v11, v12, v13, v14, v15]))] H := hP
  have hD : va_D A [(h0, .inr (16, [v0, v1, v2, v3, v4, v5, v6, v7, v8, v9, v10, v11, v12, v13, v14, v15]))] := hD
  have hK : va_K (dC, dI) vwCl [] s := hK
  refine vx_widen (k := 1) (n := 6) (Nat.le_of_ble_eq_true rfl) (Nat.le_of_ble_eq_true rfl) ?_
  refine vx_catch hown [] ⟨0, 10, 13, 19⟩ [] htab (fun z hz => by simp at hz) (by decide) (by decide) (hts (.classLink RL 19 "java/lang/IllegalArgumentException") (by decide +kernel)) (va_Nw.use rfl (ns_f11 hF)) hc1 hc2 hc3 ?_
  refine W.eq (g2 := F0 m 13 ls [.ref q9]) rfl ?_
  refine lv_astore_n (lv' := [(3, .ref q9), (0, .ref h0), (1, .int x0), (2, .ref h1)]) hx hb dL_house_13 rfl hl (by decide) rfl (fun ls hl => ?_)
  refine lv_iconst (v := 1) hx hb dL_house_14 (by decide) ?_
  have hP9 := hP.sub (ws' := [(h0, .inr (16, [v0, v1, v2, v3, v4, v5, v6, v7, v8, v9, v10, v11, v12, v13, v14, v15]))]) [0] rfl
  have hD9 := hD.sub (ws' := [(h0, .inr (16, [v0, v1, v2, v3, v4, v5, v6, v7, v8, v9, v10, v11, v12, v13, v14, v15]))]) [0] (by decide) rfl
  have hK9 := hK.sub (tys' := []) [] rfl
  refine W.widen (k := 1) (n := 6) (Nat.le_of_ble_eq_true rfl) (Nat.le_of_ble_eq_true rfl) ?_
  exact W.iret (v := 1) hx hb hr (fun t ht hW => ⟨⟨_, (), rfl, rfl, by rw [ht]; exact hP9, va_K.moved hW.alike hK9, hD9⟩, hS.F ht⟩) hS.2.2 dL_house_15
set_option maxHeartbeats 4000000 in
set_option maxRecDepth 100000 in
theorem kX16_isIn_15 (l : Launch) (dC : Nat → ClassId) (dI : Nat → Nat → Nat) (g : Nat → Nat) (sz : Nat) (x0 : Int32) (ex0 : (-2147483648 : Int) ≤ x0.toInt ∧ x0.toInt ≤ (-1 : Int)) : Met l yX16_isIn wsX16_isIn ({ frames := 0, cells := 0, slots := 0, locals := 0 }) (va_Pc [.int x0, .int 0, .int 7] (fun U => U.heap.size = sz ∧ va_P (dC, dI) vwCl [] U.heap ∧ va_K (dC, dI) vwCl [] U ∧ va_D (fun _ => True) [] ∧ ns_F g (va_A [] sz) U U.heap)) (va_Qi (fun (r : Int32) (_ : Unit) => r = 0) (fun _ t => va_P (dC, dI) vwCl [] t.heap ∧ va_K (dC, dI) vwCl [] t ∧ va_D (va_A [] sz) []) (va_A [] sz)) 0 0 (va_A [] sz) := by
  refine Met.ofW (cc := cX16_isIn) (maxL := 3) (ret := (some .boolean)) (by decide) rfl ?_
  intro p e s m args below meth c s₁ B hml hv
  obtain ⟨rfl, hsz, hP, hK, hD0, hF⟩ := hv
  have hx := B.exec
  have hb := B.bytes
  have hr := B.returns
  have hts := atoms_spec (ws := wsX16_isIn) B.pre
  have hown : s.vm.findClass RX16 = some m.cls := findClass_of_methodNamed B.named
  have hlocks := B.notSynchronized
  subst hsz
  have hD := hD0.self (sz := s.heap.size)
  generalize hAe : va_A [] s.heap.size = A at hD hF ⊢
  have hA : ∀ q : Nat, s.heap.size ≤ q → A q := fun q h => by rw [← hAe]; exact Or.inr h
  have hS : va_S A s.heap s.heap [] := va_S.rf
  have hP : va_P (dC, dI) vwCl [] s.heap := hP
  have hl := lv_entry ([.int x0, .int 0, .int 7]) (n := 3) (Nat.le_of_ble_eq_true rfl)
  rw [lg_entry_eq]
  generalize (lg_sl ([.int x0, .int 0, .int 7]) ++ List.replicate (3 - (lg_sl ([.int x0, .int 0, .int 7])).length) Slot.unset).toArray = ls at hl ⊢
  have hl : lv_has ls 3 [(0, .int x0), (1, .int 0), (2, .int 7)] := hl
  refine lv_iload_n hx hb dX16_isIn_0 rfl (lv_at hl 0 rfl) ?_
  refine lv_iload_n hx hb dX16_isIn_1 rfl (lv_at hl 1 rfl) ?_
  refine lv_icmp_lt (tgt := 14) hx hb dX16_isIn_2 (by decide) (fun c1 => ?_) (fun c1 => absurd (Int32.lt_iff_toInt_lt.mpr (show x0.toInt < (0 : Int) by omega)) c1)
  refine lv_iconst (v := 0) hx hb dX16_isIn_14 (by decide) ?_
  have hP9 := hP.sub (ws' := []) [] rfl
  have hD9 := hD.sub (ws' := []) [] (by decide) rfl
  have hK9 := hK.sub (tys' := []) [] rfl
  refine W.widen (k := 0) (n := 0) (Nat.le_of_ble_eq_true rfl) (Nat.le_of_ble_eq_true rfl) ?_
  exact W.zret (v := 0) hx hb hr (by decide) (fun t ht hW => ⟨⟨_, (), rfl, rfl, by rw [ht]; exact hP9, va_K.moved hW.alike hK9, hD9⟩, hS.F ht⟩) hS.2.2 dX16_isIn_15
set_option maxHeartbeats 4000000 in
set_option maxRecDepth 100000 in
theorem kX16_house (l : Launch) (dC : Nat → ClassId) (dI : Nat → Nat → Nat) (g : Nat → Nat) (sz : Nat) (h0 : Nat) (x0 : Int32) (v0 : Value) (v1 : Value) (v2 : Value) (v3 : Value) (v4 : Value) (v5 : Value) (v6 : Value) (v7 : Value) (v8 : Value) (ex0 : (-2147483648 : Int) ≤ x0.toInt ∧ x0.toInt ≤ (-1 : Int)) : Met l yX16_house wsX16_house ({ frames := 2, cells := 0, slots := 0, locals := 44 }) (va_Pc [.ref h0, .int x0] (fun U => U.heap.size = sz ∧ va_P (dC, dI) vwCl [(h0, .inr (23, [v0, v1, v2, v3, v4, v5, v6, v7, v8]))] U.heap ∧ va_K (dC, dI) vwCl [] U ∧ va_D (fun _ => True) [(h0, .inr (23, [v0, v1, v2, v3, v4, v5, v6, v7, v8]))] ∧ ns_F g (va_A [(h0, .inr (23, [v0, v1, v2, v3, v4, v5, v6, v7, v8]))] sz) U U.heap)) (va_Qi (fun (r : Int32) (_ : Unit) => r = 0) (fun _ t => va_P (dC, dI) vwCl [(h0, .inr (23, [.int 1, v1, v2, v3, v4, v5, v6, v7, v8]))] t.heap ∧ va_K (dC, dI) vwCl [] t ∧ va_D (va_A [(h0, .inr (23, [v0, v1, v2, v3, v4, v5, v6, v7, v8]))] sz) [(h0, .inr (23, [.int 1, v1, v2, v3, v4, v5, v6, v7, v8]))]) (va_A [(h0, .inr (23, [v0, v1, v2, v3, v4, v5, v6, v7, v8]))] sz)) 0 0 (va_A [(h0, .inr (23, [v0, v1, v2, v3, v4, v5, v6, v7, v8]))] sz) := by
  refine Met.ofW (cc := cX16_house) (maxL := 2) (ret := (some .int)) (by decide) rfl ?_
  intro p e s m args below meth c s₁ B hml hv
  obtain ⟨rfl, hsz, hP, hK, hD0, hF⟩ := hv
  have hx := B.exec
  have hb := B.bytes
  have hr := B.returns
  have hts := atoms_spec (ws := wsX16_house) B.pre
  have hown : s.vm.findClass RX16 = some m.cls := findClass_of_methodNamed B.named
  have hlocks := B.notSynchronized
  subst hsz
  have hD := hD0.self (sz := s.heap.size)
  generalize hAe : va_A [(h0, .inr (23, [v0, v1, v2, v3, v4, v5, v6, v7, v8]))] s.heap.size = A at hD hF ⊢
  have hA : ∀ q : Nat, s.heap.size ≤ q → A q := fun q h => by rw [← hAe]; exact Or.inr h
  have hS : va_S A s.heap s.heap [] := va_S.rf
  have hP : va_P (dC, dI) vwCl [(h0, .inr (23, [v0, v1, v2, v3, v4, v5, v6, v7, v8]))] s.heap := hP
  have hl := lv_entry ([.ref h0, .int x0]) (n := 2) (Nat.le_of_ble_eq_true rfl)
  rw [lg_entry_eq]
  generalize (lg_sl ([.ref h0, .int x0]) ++ List.replicate (2 - (lg_sl ([.ref h0, .int x0])).length) Slot.unset).toArray = ls at hl ⊢
  have hl : lv_has ls 2 [(0, .ref h0), (1, .int x0)] := hl
  refine lv_aload_n hx hb dX16_house_0 rfl (lv_at hl 0 rfl) ?_
  refine lv_iload_n hx hb dX16_house_1 rfl (lv_at hl 1 rfl) ?_
  refine lv_iconst (v := 0) hx hb dX16_house_2 (by decide) ?_
  refine lv_bipush (v := 7) hx hb dX16_house_3 (by decide) ?_
  have hPc := hP.sub (ws' := []) [] rfl
  have hDc := hD.sub (ws' := []) [] (by decide) rfl
  have hKc := hK.sub (tys' := []) [] rfl
  have hFc := va_free (wc := []) hD hS hA [] rfl
  refine va_calli (va_runS (As := [.int x0, .int 0, .int 7]) (rest := [.ref h0]) ⟨hx, hb, hml, hown, hts⟩ (kX16_isIn_15 l dC dI g s.heap.size x0 ⟨by omega, by omega⟩) (va_cwS 3 hts gX16_house_X16_isIn rfl rfl rfl (by decide +kernel) ⟨Nat.le_of_ble_eq_true rfl, Nat.le_of_ble_eq_true rfl⟩) ⟨fun a U gg mk q => by obtain ⟨q0, q1, qP, qK, qD, qF⟩ := q; exact ⟨q0, q1, qP, va_K.moved (u := U) (U := U.calling gg mk a) (Vm.Alike.refl U.vm) qK, qD, ns_same qF⟩, fun U hU hW => ⟨rfl, by rw [hU], by rw [hU]; exact hPc, va_K.moved hW.alike hKc, hDc.weaken (fun _ _ _ _ => trivial), ns_call hF hS hFc hU hW⟩⟩ rfl rfl hl.1 rfl (lv_room (Nat.le_of_ble_eq_true rfl)) dX16_house_5 ⟨Nat.le_of_ble_eq_true rfl, Nat.le_of_ble_eq_true rfl⟩) hS (fun q _ h => hFc q h) hFc (fun r9 u t H1 locs ht hvm hw hB hz1 hk1 hS => ?_)
  obtain rfl := hw
  obtain ⟨hP1, hK1, hD1⟩ := hB
  rw [ht] at hP1
  have hK1 := va_K.moved hvm.symm hK1
  obtain ⟨hP, hD⟩ := va_join (wr := [(h0, .inr (23, [v0, v1, v2, v3, v4, v5, v6, v7, v8]))]) (w1 := []) hP hD [] [0] rfl rfl (by decide) (by decide) hk1 hFc hP1 hD1
  have hK := (hK.sub (tys' := []) [] rfl).app hK1
  generalize H1 = H at hP hS ⊢
  have hP : va_P (dC, dI) vwCl [(h0, .inr (23, [v0, v1, v2, v3, v4, v5, v6, v7, v8]))] H := hP
  have hD : va_D A [(h0, .inr (23, [v0, v1, v2, v3, v4, v5, v6, v7, v8]))] := hD
  have hK : va_K (dC, dI) vwCl [] s := hK
  refine W.widen (k := 0) (n := 0) (Nat.le_of_ble_eq_true rfl) (Nat.le_of_ble_eq_true rfl) ?_
  refine lv_if_ne (tgt := 15) hx hb dX16_house_8 (by decide) (fun c1 => absurd (by decide) c1) (fun c1 => ?_)
  refine lv_iconst (v := 1) hx hb dX16_house_11 (by decide) ?_
  refine lv_goto (tgt := 16) hx hb dX16_house_12 (by decide) ?_
  refine lv_iconst (v := 1) hx hb dX16_house_16 (by decide) ?_
  have hPc := hP.sub (ws' := [(h0, .inr (23, [v0, v1, v2, v3, v4, v5, v6, v7, v8]))]) [0] rfl
  have hDc := hD.sub (ws' := [(h0, .inr (23, [v0, v1, v2, v3, v4, v5, v6, v7, v8]))]) [0] (by decide) rfl
  have hKc := hK.sub (tys' := []) [] rfl
  have hFc := va_free (wc := [(h0, .inr (23, [v0, v1, v2, v3, v4, v5, v6, v7, v8]))]) hD hS hA [0] rfl
  refine va_calli (va_runV (As := [.int 1, .int 1]) (rest := []) ⟨hx, hb, hml, hown, hts⟩ (kX16_start l dC dI g H.size h0 v0 v1 v2 v3 v4 v5 v6 v7 v8 ) (cwV 2 hts gX16_house_X16_start rfl rfl rfl (by decide +kernel) ⟨Nat.le_of_ble_eq_true rfl, Nat.le_of_ble_eq_true rfl⟩) ⟨fun a U gg mk q => by obtain ⟨q0, q1, qP, qK, qD, qF⟩ := q; exact ⟨q0, q1, qP, va_K.moved (u := U) (U := U.calling gg mk a) (Vm.Alike.refl U.vm) qK, qD, ns_same qF⟩, va_recv hK hP (ci := 23) (q0 := 0) rfl rfl, fun U hU hW => ⟨rfl, by rw [hU], by rw [hU]; exact hPc, va_K.moved hW.alike hKc, hDc.weaken (fun _ _ _ _ => trivial), ns_call hF hS hFc hU hW⟩⟩ rfl rfl hl.1 rfl (lv_room (Nat.le_of_ble_eq_true rfl)) dX16_house_17 ⟨Nat.le_of_ble_eq_true rfl, Nat.le_of_ble_eq_true rfl⟩) hS (fun q _ h => hFc q h) hFc (fun r9 u t H1 locs ht hvm hw hB hz1 hk1 hS => ?_)
  obtain rfl := hw
  obtain ⟨hP1, hK1, hD1⟩ := hB
  rw [ht] at hP1
  have hK1 := va_K.moved hvm.symm hK1
  obtain ⟨hP, hD⟩ := va_join (wr := []) (w1 := [(h0, .inr (23, [.int 1, v1, v2, v3, v4, v5, v6, v7, v8]))]) hP hD [0] [] rfl rfl (by decide) (by decide) hk1 hFc hP1 hD1
  have hK := (hK.sub (tys' := []) [] rfl).app hK1
  generalize H1 = H at hP hS ⊢
  have hP : va_P (dC, dI) vwCl [(h0, .inr (23, [.int 1, v1, v2, v3, v4, v5, v6, v7, v8]))] H := hP
  have hD : va_D A [(h0, .inr (23, [.int 1, v1, v2, v3, v4, v5, v6, v7, v8]))] := hD
  have hK : va_K (dC, dI) vwCl [] s := hK
  refine W.widen (k := 0) (n := 0) (Nat.le_of_ble_eq_true rfl) (Nat.le_of_ble_eq_true rfl) ?_
  refine lv_if_eq (tgt := 27) hx hb dX16_house_20 (by decide) (fun c2 => absurd c2 (by decide)) (fun c2 => ?_)
  refine lv_iconst (v := 0) hx hb dX16_house_23 (by decide) ?_
  refine lv_goto (tgt := 32) hx hb dX16_house_24 (by decide) ?_
  have hP9 := hP.sub (ws' := [(h0, .inr (23, [.int 1, v1, v2, v3, v4, v5, v6, v7, v8]))]) [0] rfl
  have hD9 := hD.sub (ws' := [(h0, .inr (23, [.int 1, v1, v2, v3, v4, v5, v6, v7, v8]))]) [0] (by decide) rfl
  have hK9 := hK.sub (tys' := []) [] rfl
  refine W.widen (k := 0) (n := 0) (Nat.le_of_ble_eq_true rfl) (Nat.le_of_ble_eq_true rfl) ?_
  exact W.iret (v := 0) hx hb hr (fun t ht hW => ⟨⟨_, (), rfl, rfl, by rw [ht]; exact hP9, va_K.moved hW.alike hK9, hD9⟩, hS.F ht⟩) hS.2.2 dX16_house_32
set_option maxHeartbeats 4000000 in
set_option maxRecDepth 100000 in
theorem kX9_stateOf (l : Launch) (dC : Nat → ClassId) (dI : Nat → Nat → Nat) (g : Nat → Nat) (sz : Nat) (h0 : Nat) (h1 : Nat) (h2 : Nat) (v0 : Value) (v1 : Value) (v2 : Value) (v3 : Value) (v4 : Value) (v5 : Value) (v6 : Value) (v7 : Value) (v8 : Value) (v9 : Value) (v10 : Value) (v11 : Value) (v12 : Value) (v13 : Value) (v14 : Value) (v15 : Value) (v16 : Value) (v17 : Value) (v18 : Value) (v19 : Value) (v20 : Value) (v21 : Value) (v22 : Value) (v23 : Value) : Met l yX9_stateOf wsX9_stateOf ({ frames := 2, cells := 0, slots := 0, locals := 40 }) (va_Pc [.ref h0, .int 0] (fun U => U.heap.size = sz ∧ va_P (dC, dI) vwCl [(h0, .inr (16, [.ref h1, v0, v1, v2, v3, v4, v5, v6, v7, v8, v9, v10, v11, v12, v13, v14])), (h1, .inr (10, [.ref h2, v15, v16, v17, v18, v19, v20, v21, v22])), (h2, .inr (11, [v23, .int 0]))] U.heap ∧ va_K (dC, dI) vwCl [] U ∧ va_D (fun _ => True) [(h0, .inr (16, [.ref h1, v0, v1, v2, v3, v4, v5, v6, v7, v8, v9, v10, v11, v12, v13, v14])), (h1, .inr (10, [.ref h2, v15, v16, v17, v18, v19, v20, v21, v22])), (h2, .inr (11, [v23, .int 0]))] ∧ ns_F g (va_A [(h0, .inr (16, [.ref h1, v0, v1, v2, v3, v4, v5, v6, v7, v8, v9, v10, v11, v12, v13, v14])), (h1, .inr (10, [.ref h2, v15, v16, v17, v18, v19, v20, v21, v22])), (h2, .inr (11, [v23, .int 0]))] sz) U U.heap)) (va_Qi (fun (r : Int32) (_ : Unit) => r = 0) (fun _ t => va_P (dC, dI) vwCl [(h0, .inr (16, [.ref h1, v0, v1, v2, v3, v4, v5, v6, v7, v8, v9, v10, v11, v12, v13, v14])), (h1, .inr (10, [.ref h2, v15, v16, v17, v18, v19, v20, v21, v22])), (h2, .inr (11, [v23, .int 0]))] t.heap ∧ va_K (dC, dI) vwCl [] t ∧ va_D (va_A [(h0, .inr (16, [.ref h1, v0, v1, v2, v3, v4, v5, v6, v7, v8, v9, v10, v11, v12, v13, v14])), (h1, .inr (10, [.ref h2, v15, v16, v17, v18, v19, v20, v21, v22])), (h2, .inr (11, [v23, .int 0]))] sz) [(h0, .inr (16, [.ref h1, v0, v1, v2, v3, v4, v5, v6, v7, v8, v9, v10, v11, v12, v13, v14])), (h1, .inr (10, [.ref h2, v15, v16, v17, v18, v19, v20, v21, v22])), (h2, .inr (11, [v23, .int 0]))]) (va_A [(h0, .inr (16, [.ref h1, v0, v1, v2, v3, v4, v5, v6, v7, v8, v9, v10, v11, v12, v13, v14])), (h1, .inr (10, [.ref h2, v15, v16, v17, v18, v19, v20, v21, v22])), (h2, .inr (11, [v23, .int 0]))] sz)) 0 0 (va_A [(h0, .inr (16, [.ref h1, v0, v1, v2, v3, v4, v5, v6, v7, v8, v9, v10, v11, v12, v13, v14])), (h1, .inr (10, [.ref h2, v15, v16, v17, v18, v19, v20, v21, v22])), (h2, .inr (11, [v23, .int 0]))] sz) := by
  refine Met.ofW (cc := cX9_stateOf) (maxL := 2) (ret := (some .int)) (by decide) rfl ?_
  intro p e s m args below meth c s₁ B hml hv
  obtain ⟨rfl, hsz, hP, hK, hD0, hF⟩ := hv
  have hx := B.exec
  have hb := B.bytes
  have hr := B.returns
  have hts := atoms_spec (ws := wsX9_stateOf) B.pre
  have hown : s.vm.findClass RX9 = some m.cls := findClass_of_methodNamed B.named
  have hlocks := B.notSynchronized
  subst hsz
  have hD := hD0.self (sz := s.heap.size)
  generalize hAe : va_A [(h0, .inr (16, [.ref h1, v0, v1, v2, v3, v4, v5, v6, v7, v8, v9, v10, v11, v12, v13, v14])), (h1, .inr (10, [.ref h2, v15, v16, v17, v18, v19, v20, v21, v22])), (h2, .inr (11, [v23, .int 0]))] s.heap.size = A at hD hF ⊢
  have hA : ∀ q : Nat, s.heap.size ≤ q → A q := fun q h => by rw [← hAe]; exact Or.inr h
  have hS : va_S A s.heap s.heap [] := va_S.rf
  have hP : va_P (dC, dI) vwCl [(h0, .inr (16, [.ref h1, v0, v1, v2, v3, v4, v5, v6, v7, v8, v9, v10, v11, v12, v13, v14])), (h1, .inr (10, [.ref h2, v15, v16, v17, v18, v19, v20, v21, v22])), (h2, .inr (11, [v23, .int 0]))] s.heap := hP
  have hl := lv_entry ([.ref h0, .int 0]) (n := 2) (Nat.le_of_ble_eq_true rfl)
  rw [lg_entry_eq]
  generalize (lg_sl ([.ref h0, .int 0]) ++ List.replicate (2 - (lg_sl ([.ref h0, .int 0])).length) Slot.unset).toArray = ls at hl ⊢
  have hl : lv_has ls 2 [(0, .ref h0), (1, .int 0)] := hl
  refine lv_iload_n hx hb dX9_stateOf_0 rfl (lv_at hl 1 rfl) ?_
  refine lv_tableIn (off := 43) (tgt := 44) hx hb dX9_stateOf_1 (by decide) (by decide) (by decide) (by decide) ?_
  refine lv_aload_n hx hb dX9_stateOf_44 rfl (lv_at hl 0 rfl) ?_
  refine va_get (D := (dC, dI)) (ci := 16) (v := .ref h1) (C := RX9) (T := TX9) (N := 16) hx hb hts (by decide +kernel) hown hK hP 0 rfl rfl 0 (by decide) (hts (.fieldLink RX9 12 "Nestprint" "nodes" "LNestprint$Nodes;") (by decide +kernel)) (fun _ h9 => h9) rfl dX9_stateOf_45 ?_
  have hPc := hP.sub (ws' := [(h1, .inr (10, [.ref h2, v15, v16, v17, v18, v19, v20, v21, v22])), (h2, .inr (11, [v23, .int 0]))]) [1, 2] rfl
  have hDc := hD.sub (ws' := [(h1, .inr (10, [.ref h2, v15, v16, v17, v18, v19, v20, v21, v22])), (h2, .inr (11, [v23, .int 0]))]) [1, 2] (by decide) rfl
  have hKc := hK.sub (tys' := []) [] rfl
  have hFc := va_free (wc := [(h1, .inr (10, [.ref h2, v15, v16, v17, v18, v19, v20, v21, v22])), (h2, .inr (11, [v23, .int 0]))]) hD hS hA [1, 2] rfl
  refine va_calli (va_runV (As := []) (rest := []) ⟨hx, hb, hml, hown, hts⟩ (kX3_count l dC dI g s.heap.size h1 h2 v15 v16 v17 v18 v19 v20 v21 v22 v23 ) (cwV 0 hts gX9_stateOf_X3_count rfl rfl rfl (by decide +kernel) ⟨Nat.le_of_ble_eq_true rfl, Nat.le_of_ble_eq_true rfl⟩) ⟨fun a U gg mk q => by obtain ⟨q0, q1, qP, qK, qD, qF⟩ := q; exact ⟨q0, q1, qP, va_K.moved (u := U) (U := U.calling gg mk a) (Vm.Alike.refl U.vm) qK, qD, ns_same qF⟩, va_recv hK hP (ci := 10) (q0 := 1) rfl rfl, fun U hU hW => ⟨rfl, by rw [hU], by rw [hU]; exact hPc, va_K.moved hW.alike hKc, hDc.weaken (fun _ _ _ _ => trivial), ns_call hF hS hFc hU hW⟩⟩ rfl rfl hl.1 rfl (lv_room (Nat.le_of_ble_eq_true rfl)) dX9_stateOf_48 ⟨Nat.le_of_ble_eq_true rfl, Nat.le_of_ble_eq_true rfl⟩) hS (fun q _ h => hFc q h) hFc (fun r9 u t H1 locs ht hvm hw hB hz1 hk1 hS => ?_)
  obtain rfl := hw
  obtain ⟨hP1, hK1, hD1⟩ := hB
  rw [ht] at hP1
  have hK1 := va_K.moved hvm.symm hK1
  obtain ⟨hP, hD⟩ := va_join (wr := [(h0, .inr (16, [.ref h1, v0, v1, v2, v3, v4, v5, v6, v7, v8, v9, v10, v11, v12, v13, v14]))]) (w1 := [(h1, .inr (10, [.ref h2, v15, v16, v17, v18, v19, v20, v21, v22])), (h2, .inr (11, [v23, .int 0]))]) hP hD [1, 2] [0] rfl rfl (by decide) (by decide) hk1 hFc hP1 hD1
  have hK := (hK.sub (tys' := []) [] rfl).app hK1
  generalize H1 = H at hP hS ⊢
  have hP : va_P (dC, dI) vwCl [(h0, .inr (16, [.ref h1, v0, v1, v2, v3, v4, v5, v6, v7, v8, v9, v10, v11, v12, v13, v14])), (h1, .inr (10, [.ref h2, v15, v16, v17, v18, v19, v20, v21, v22])), (h2, .inr (11, [v23, .int 0]))] H := hP
  have hD : va_D A [(h0, .inr (16, [.ref h1, v0, v1, v2, v3, v4, v5, v6, v7, v8, v9, v10, v11, v12, v13, v14])), (h1, .inr (10, [.ref h2, v15, v16, v17, v18, v19, v20, v21, v22])), (h2, .inr (11, [v23, .int 0]))] := hD
  have hK : va_K (dC, dI) vwCl [] s := hK
  refine W.widen (k := 0) (n := 0) (Nat.le_of_ble_eq_true rfl) (Nat.le_of_ble_eq_true rfl) ?_
  have hP9 := hP.sub (ws' := [(h0, .inr (16, [.ref h1, v0, v1, v2, v3, v4, v5, v6, v7, v8, v9, v10, v11, v12, v13, v14])), (h1, .inr (10, [.ref h2, v15, v16, v17, v18, v19, v20, v21, v22])), (h2, .inr (11, [v23, .int 0]))]) [0, 1, 2] rfl
  have hD9 := hD.sub (ws' := [(h0, .inr (16, [.ref h1, v0, v1, v2, v3, v4, v5, v6, v7, v8, v9, v10, v11, v12, v13, v14])), (h1, .inr (10, [.ref h2, v15, v16, v17, v18, v19, v20, v21, v22])), (h2, .inr (11, [v23, .int 0]))]) [0, 1, 2] (by decide) rfl
  have hK9 := hK.sub (tys' := []) [] rfl
  refine W.widen (k := 0) (n := 0) (Nat.le_of_ble_eq_true rfl) (Nat.le_of_ble_eq_true rfl) ?_
  exact W.iret (v := 0) hx hb hr (fun t ht hW => ⟨⟨_, (), rfl, rfl, by rw [ht]; exact hP9, va_K.moved hW.alike hK9, hD9⟩, hS.F ht⟩) hS.2.2 dX9_stateOf_51
set_option maxHeartbeats 4000000 in
set_option maxRecDepth 100000 in
theorem kX9_house_2 (l : Launch) (dC : Nat → ClassId) (dI : Nat → Nat → Nat) (g : Nat → Nat) (sz : Nat) (h0 : Nat) (h1 : Nat) (h2 : Nat) (v0 : Value) (v1 : Value) (v2 : Value) (v3 : Value) (v4 : Value) (v5 : Value) (v6 : Value) (v7 : Value) (v8 : Value) (v9 : Value) (v10 : Value) (v11 : Value) (v12 : Value) (v13 : Value) (v14 : Value) (v15 : Value) (v16 : Value) (v17 : Value) (v18 : Value) (v19 : Value) (v20 : Value) (v21 : Value) (v22 : Value) (v23 : Value) : Met l yX9_house wsX9_house ({ frames := 3, cells := 0, slots := 0, locals := 61 }) (va_Pc [.ref h0, .int 0] (fun U => U.heap.size = sz ∧ va_P (dC, dI) vwCl [(h0, .inr (16, [.ref h1, v0, v1, v2, v3, v4, v5, v6, v7, v8, v9, v10, v11, v12, v13, v14])), (h1, .inr (10, [.ref h2, v15, v16, v17, v18, v19, v20, v21, v22])), (h2, .inr (11, [v23, .int 0]))] U.heap ∧ va_K (dC, dI) vwCl [] U ∧ va_D (fun _ => True) [(h0, .inr (16, [.ref h1, v0, v1, v2, v3, v4, v5, v6, v7, v8, v9, v10, v11, v12, v13, v14])), (h1, .inr (10, [.ref h2, v15, v16, v17, v18, v19, v20, v21, v22])), (h2, .inr (11, [v23, .int 0]))] ∧ ns_F g (va_A [(h0, .inr (16, [.ref h1, v0, v1, v2, v3, v4, v5, v6, v7, v8, v9, v10, v11, v12, v13, v14])), (h1, .inr (10, [.ref h2, v15, v16, v17, v18, v19, v20, v21, v22])), (h2, .inr (11, [v23, .int 0]))] sz) U U.heap)) (va_Qi (fun (r : Int32) (_ : Unit) => r = 0) (fun _ t => va_P (dC, dI) vwCl [(h0, .inr (16, [.ref h1, v0, v1, v2, v3, v4, v5, v6, v7, v8, v9, v10, v11, v12, v13, v14])), (h1, .inr (10, [.ref h2, v15, v16, v17, v18, v19, v20, v21, v22])), (h2, .inr (11, [v23, .int 0]))] t.heap ∧ va_K (dC, dI) vwCl [] t ∧ va_D (va_A [(h0, .inr (16, [.ref h1, v0, v1, v2, v3, v4, v5, v6, v7, v8, v9, v10, v11, v12, v13, v14])), (h1, .inr (10, [.ref h2, v15, v16, v17, v18, v19, v20, v21, v22])), (h2, .inr (11, [v23, .int 0]))] sz) [(h0, .inr (16, [.ref h1, v0, v1, v2, v3, v4, v5, v6, v7, v8, v9, v10, v11, v12, v13, v14])), (h1, .inr (10, [.ref h2, v15, v16, v17, v18, v19, v20, v21, v22])), (h2, .inr (11, [v23, .int 0]))]) (va_A [(h0, .inr (16, [.ref h1, v0, v1, v2, v3, v4, v5, v6, v7, v8, v9, v10, v11, v12, v13, v14])), (h1, .inr (10, [.ref h2, v15, v16, v17, v18, v19, v20, v21, v22])), (h2, .inr (11, [v23, .int 0]))] sz)) 0 0 (va_A [(h0, .inr (16, [.ref h1, v0, v1, v2, v3, v4, v5, v6, v7, v8, v9, v10, v11, v12, v13, v14])), (h1, .inr (10, [.ref h2, v15, v16, v17, v18, v19, v20, v21, v22])), (h2, .inr (11, [v23, .int 0]))] sz) := by
  refine Met.ofW (cc := cX9_house) (maxL := 2) (ret := (some .int)) (by decide) rfl ?_
  intro p e s m args below meth c s₁ B hml hv
  obtain ⟨rfl, hsz, hP, hK, hD0, hF⟩ := hv
  have hx := B.exec
  have hb := B.bytes
  have hr := B.returns
  have hts := atoms_spec (ws := wsX9_house) B.pre
  have hown : s.vm.findClass RX9 = some m.cls := findClass_of_methodNamed B.named
  have hlocks := B.notSynchronized
  subst hsz
  have hD := hD0.self (sz := s.heap.size)
  generalize hAe : va_A [(h0, .inr (16, [.ref h1, v0, v1, v2, v3, v4, v5, v6, v7, v8, v9, v10, v11, v12, v13, v14])), (h1, .inr (10, [.ref h2, v15, v16, v17, v18, v19, v20, v21, v22])), (h2, .inr (11, [v23, .int 0]))] s.heap.size = A at hD hF ⊢
  have hA : ∀ q : Nat, s.heap.size ≤ q → A q := fun q h => by rw [← hAe]; exact Or.inr h
  have hS : va_S A s.heap s.heap [] := va_S.rf
  have hP : va_P (dC, dI) vwCl [(h0, .inr (16, [.ref h1, v0, v1, v2, v3, v4, v5, v6, v7, v8, v9, v10, v11, v12, v13, v14])), (h1, .inr (10, [.ref h2, v15, v16, v17, v18, v19, v20, v21, v22])), (h2, .inr (11, [v23, .int 0]))] s.heap := hP
  have hl := lv_entry ([.ref h0, .int 0]) (n := 2) (Nat.le_of_ble_eq_true rfl)
  rw [lg_entry_eq]
  generalize (lg_sl ([.ref h0, .int 0]) ++ List.replicate (2 - (lg_sl ([.ref h0, .int 0])).length) Slot.unset).toArray = ls at hl ⊢
  have hl : lv_has ls 2 [(0, .ref h0), (1, .int 0)] := hl
  refine lv_iload_n hx hb dX9_house_0 rfl (lv_at hl 1 rfl) ?_
  refine lv_if_lt (tgt := 10) hx hb dX9_house_1 (by decide) (fun c1 => absurd c1 (by decide)) (fun c1 => ?_)
  refine lv_iload_n hx hb dX9_house_4 rfl (lv_at hl 1 rfl) ?_
  refine lv_bipush (v := 7) hx hb dX9_house_5 (by decide) ?_
  refine lv_icmp_le (tgt := 20) hx hb dX9_house_7 (by decide) (fun c2 => ?_) (fun c2 => absurd (by decide) c2)
  refine lv_aload_n hx hb dX9_house_20 rfl (lv_at hl 0 rfl) ?_
  refine lv_iload_n hx hb dX9_house_21 rfl (lv_at hl 1 rfl) ?_
  have hPc := hP.sub (ws' := [(h0, .inr (16, [.ref h1, v0, v1, v2, v3, v4, v5, v6, v7, v8, v9, v10, v11, v12, v13, v14])), (h1, .inr (10, [.ref h2, v15, v16, v17, v18, v19, v20, v21, v22])), (h2, .inr (11, [v23, .int 0]))]) [0, 1, 2] rfl
  have hDc := hD.sub (ws' := [(h0, .inr (16, [.ref h1, v0, v1, v2, v3, v4, v5, v6, v7, v8, v9, v10, v11, v12, v13, v14])), (h1, .inr (10, [.ref h2, v15, v16, v17, v18, v19, v20, v21, v22])), (h2, .inr (11, [v23, .int 0]))]) [0, 1, 2] (by decide) rfl
  have hKc := hK.sub (tys' := []) [] rfl
  have hFc := va_free (wc := [(h0, .inr (16, [.ref h1, v0, v1, v2, v3, v4, v5, v6, v7, v8, v9, v10, v11, v12, v13, v14])), (h1, .inr (10, [.ref h2, v15, v16, v17, v18, v19, v20, v21, v22])), (h2, .inr (11, [v23, .int 0]))]) hD hS hA [0, 1, 2] rfl
  refine va_calli (va_runV (As := [.int 0]) (rest := []) ⟨hx, hb, hml, hown, hts⟩ (kX9_stateOf l dC dI g s.heap.size h0 h1 h2 v0 v1 v2 v3 v4 v5 v6 v7 v8 v9 v10 v11 v12 v13 v14 v15 v16 v17 v18 v19 v20 v21 v22 v23 ) (cwV 1 hts gX9_house_X9_stateOf rfl rfl rfl (by decide +kernel) ⟨Nat.le_of_ble_eq_true rfl, Nat.le_of_ble_eq_true rfl⟩) ⟨fun a U gg mk q => by obtain ⟨q0, q1, qP, qK, qD, qF⟩ := q; exact ⟨q0, q1, qP, va_K.moved (u := U) (U := U.calling gg mk a) (Vm.Alike.refl U.vm) qK, qD, ns_same qF⟩, va_recv hK hP (ci := 16) (q0 := 0) rfl rfl, fun U hU hW => ⟨rfl, by rw [hU], by rw [hU]; exact hPc, va_K.moved hW.alike hKc, hDc.weaken (fun _ _ _ _ => trivial), ns_call hF hS hFc hU hW⟩⟩ rfl rfl hl.1 rfl (lv_room (Nat.le_of_ble_eq_true rfl)) dX9_house_22 ⟨Nat.le_of_ble_eq_true rfl, Nat.le_of_ble_eq_true rfl⟩) hS (fun q _ h => hFc q h) hFc (fun r9 u t H1 locs ht hvm hw hB hz1 hk1 hS => ?_)
  obtain rfl := hw
  obtain ⟨hP1, hK1, hD1⟩ := hB
  rw [ht] at hP1
  have hK1 := va_K.moved hvm.symm hK1
  obtain ⟨hP, hD⟩ := va_join (wr := []) (w1 := [(h0, .inr (16, [.ref h1, v0, v1, v2, v3, v4, v5, v6, v7, v8, v9, v10, v11, v12, v13, v14])), (h1, .inr (10, [.ref h2, v15, v16, v17, v18, v19, v20, v21, v22])), (h2, .inr (11, [v23, .int 0]))]) hP hD [0, 1, 2] [] rfl rfl (by decide) (by decide) hk1 hFc hP1 hD1
  have hK := (hK.sub (tys' := []) [] rfl).app hK1
  generalize H1 = H at hP hS ⊢
  have hP : va_P (dC, dI) vwCl [(h0, .inr (16, [.ref h1, v0, v1, v2, v3, v4, v5, v6, v7, v8, v9, v10, v11, v12, v13, v14])), (h1, .inr (10, [.ref h2, v15, v16, v17, v18, v19, v20, v21, v22])), (h2, .inr (11, [v23, .int 0]))] H := hP
  have hD : va_D A [(h0, .inr (16, [.ref h1, v0, v1, v2, v3, v4, v5, v6, v7, v8, v9, v10, v11, v12, v13, v14])), (h1, .inr (10, [.ref h2, v15, v16, v17, v18, v19, v20, v21, v22])), (h2, .inr (11, [v23, .int 0]))] := hD
  have hK : va_K (dC, dI) vwCl [] s := hK
  refine W.widen (k := 0) (n := 0) (Nat.le_of_ble_eq_true rfl) (Nat.le_of_ble_eq_true rfl) ?_
  have hP9 := hP.sub (ws' := [(h0, .inr (16, [.ref h1, v0, v1, v2, v3, v4, v5, v6, v7, v8, v9, v10, v11, v12, v13, v14])), (h1, .inr (10, [.ref h2, v15, v16, v17, v18, v19, v20, v21, v22])), (h2, .inr (11, [v23, .int 0]))]) [0, 1, 2] rfl
  have hD9 := hD.sub (ws' := [(h0, .inr (16, [.ref h1, v0, v1, v2, v3, v4, v5, v6, v7, v8, v9, v10, v11, v12, v13, v14])), (h1, .inr (10, [.ref h2, v15, v16, v17, v18, v19, v20, v21, v22])), (h2, .inr (11, [v23, .int 0]))]) [0, 1, 2] (by decide) rfl
  have hK9 := hK.sub (tys' := []) [] rfl
  refine W.widen (k := 0) (n := 0) (Nat.le_of_ble_eq_true rfl) (Nat.le_of_ble_eq_true rfl) ?_
  exact W.iret (v := 0) hx hb hr (fun t ht hW => ⟨⟨_, (), rfl, rfl, by rw [ht]; exact hP9, va_K.moved hW.alike hK9, hD9⟩, hS.F ht⟩) hS.2.2 dX9_house_25
set_option maxHeartbeats 4000000 in
set_option maxRecDepth 100000 in
theorem kL_house_2 (l : Launch) (dC : Nat → ClassId) (dI : Nat → Nat → Nat) (g : Nat → Nat) (sz : Nat) (h0 : Nat) (h1 : Nat) (h2 : Nat) (h3 : Nat) (v0 : Value) (v1 : Value) (v2 : Value) (v3 : Value) (v4 : Value) (v5 : Value) (v6 : Value) (v7 : Value) (v8 : Value) (v9 : Value) (v10 : Value) (v11 : Value) (v12 : Value) (v13 : Value) (v14 : Value) (v15 : Value) (v16 : Value) (v17 : Value) (v18 : Value) (v19 : Value) (v20 : Value) (v21 : Value) (v22 : Value) (v23 : Value) (v24 : Value) (v25 : Value) : Met l yL_house wsL_house ({ frames := 4, cells := 0, slots := 0, locals := 82 }) (va_Pc [.ref h0, .int 0, .ref h1] (fun U => U.heap.size = sz ∧ va_P (dC, dI) vwCl [(h0, .inr (16, [.ref h2, v0, v1, v2, v3, v4, v5, v6, v7, v8, v9, v10, v11, v12, v13, v14])), (h2, .inr (10, [.ref h3, v15, v16, v17, v18, v19, v20, v21, v22])), (h3, .inr (11, [v23, .int 0])), (h1, .inr (17, [v24, v25]))] U.heap ∧ va_K (dC, dI) vwCl [] U ∧ va_D (fun _ => True) [(h0, .inr (16, [.ref h2, v0, v1, v2, v3, v4, v5, v6, v7, v8, v9, v10, v11, v12, v13, v14])), (h2, .inr (10, [.ref h3, v15, v16, v17, v18, v19, v20, v21, v22])), (h3, .inr (11, [v23, .int 0])), (h1, .inr (17, [v24, v25]))] ∧ ns_F g (va_A [(h0, .inr (16, [.ref h2, v0, v1, v2, v3, v4, v5, v6, v7, v8, v9, v10, v11, v12, v13, v14])), (h2, .inr (10, [.ref h3, v15, v16, v17, v18, v19, v20, v21, v22])), (h3, .inr (11, [v23, .int 0])), (h1, .inr (17, [v24, v25]))] sz) U U.heap)) (va_Qi (fun (r : Int32) (_ : Unit) => r = 0) (fun _ t => va_P (dC, dI) vwCl [(h1, .inr (17, [.long 0, v25])), (h0, .inr (16, [.ref h2, v0, v1, v2, v3, v4, v5, v6, v7, v8, v9, v10, v11, v12, v13, v14])), (h2, .inr (10, [.ref h3, v15, v16, v17, v18, v19, v20, v21, v22])), (h3, .inr (11, [v23, .int 0]))] t.heap ∧ va_K (dC, dI) vwCl [] t ∧ va_D (va_A [(h0, .inr (16, [.ref h2, v0, v1, v2, v3, v4, v5, v6, v7, v8, v9, v10, v11, v12, v13, v14])), (h2, .inr (10, [.ref h3, v15, v16, v17, v18, v19, v20, v21, v22])), (h3, .inr (11, [v23, .int 0])), (h1, .inr (17, [v24, v25]))] sz) [(h1, .inr (17, [.long 0, v25])), (h0, .inr (16, [.ref h2, v0, v1, v2, v3, v4, v5, v6, v7, v8, v9, v10, v11, v12, v13, v14])), (h2, .inr (10, [.ref h3, v15, v16, v17, v18, v19, v20, v21, v22])), (h3, .inr (11, [v23, .int 0]))]) (va_A [(h0, .inr (16, [.ref h2, v0, v1, v2, v3, v4, v5, v6, v7, v8, v9, v10, v11, v12, v13, v14])), (h2, .inr (10, [.ref h3, v15, v16, v17, v18, v19, v20, v21, v22])), (h3, .inr (11, [v23, .int 0])), (h1, .inr (17, [v24, v25]))] sz)) 0 0 (va_A [(h0, .inr (16, [.ref h2, v0, v1, v2, v3, v4, v5, v6, v7, v8, v9, v10, v11, v12, v13, v14])), (h2, .inr (10, [.ref h3, v15, v16, v17, v18, v19, v20, v21, v22])), (h3, .inr (11, [v23, .int 0])), (h1, .inr (17, [v24, v25]))] sz) := by
  refine va_MetW (cc := cL_house) (maxL := 4) (ret := (some .int)) (hh := [(0, 10, 13, 19)]) (by decide) rfl ?_
  intro p e s m args below meth c s₁ B hml hv
  obtain ⟨rfl, hsz, hP, hK, hD0, hF⟩ := hv
  have hx := B.exec
  have hb := B.bytes
  have hr := B.returns
  have hts := atoms_spec (ws := wsL_house) B.pre
  have hown : s.vm.findClass RL = some m.cls := findClass_of_methodNamed B.named
  have hlocks := B.notSynchronized
  have htab : c.exceptionTable.toList = [⟨0, 10, 13, 19⟩] := vx_table B (hts _ List.mem_cons_self)
  subst hsz
  have hD := hD0.self (sz := s.heap.size)
  generalize hAe : va_A [(h0, .inr (16, [.ref h2, v0, v1, v2, v3, v4, v5, v6, v7, v8, v9, v10, v11, v12, v13, v14])), (h2, .inr (10, [.ref h3, v15, v16, v17, v18, v19, v20, v21, v22])), (h3, .inr (11, [v23, .int 0])), (h1, .inr (17, [v24, v25]))] s.heap.size = A at hD hF ⊢
  have hA : ∀ q : Nat, s.heap.size ≤ q → A q := fun q h => by rw [← hAe]; exact Or.inr h
  have hS : va_S A s.heap s.heap [] := va_S.rf
  have hP : va_P (dC, dI) vwCl [(h0, .inr (16, [.ref h2, v0, v1, v2, v3, v4, v5, v6, v7, v8, v9, v10, v11, v12, v13, v14])), (h2, .inr (10, [.ref h3, v15, v16, v17, v18, v19, v20, v21, v22])), (h3, .inr (11, [v23, .int 0])), (h1, .inr (17, [v24, v25]))] s.heap := hP
  have hl := lv_entry ([.ref h0, .int 0, .ref h1]) (n := 4) (Nat.le_of_ble_eq_true rfl)
  rw [lg_entry_eq]
  generalize (lg_sl ([.ref h0, .int 0, .ref h1]) ++ List.replicate (4 - (lg_sl ([.ref h0, .int 0, .ref h1])).length) Slot.unset).toArray = ls at hl ⊢
  have hl : lv_has ls 4 [(0, .ref h0), (1, .int 0), (2, .ref h1)] := hl
  refine lv_aload_n hx hb dL_house_0 rfl (lv_at hl 2 rfl) ?_
  refine lv_aload_n hx hb dL_house_1 rfl (lv_at hl 0 rfl) ?_
  refine lv_iload_n hx hb dL_house_2 rfl (lv_at hl 1 rfl) ?_
  have hPc := hP.sub (ws' := [(h0, .inr (16, [.ref h2, v0, v1, v2, v3, v4, v5, v6, v7, v8, v9, v10, v11, v12, v13, v14])), (h2, .inr (10, [.ref h3, v15, v16, v17, v18, v19, v20, v21, v22])), (h3, .inr (11, [v23, .int 0]))]) [0, 1, 2] rfl
  have hDc := hD.sub (ws' := [(h0, .inr (16, [.ref h2, v0, v1, v2, v3, v4, v5, v6, v7, v8, v9, v10, v11, v12, v13, v14])), (h2, .inr (10, [.ref h3, v15, v16, v17, v18, v19, v20, v21, v22])), (h3, .inr (11, [v23, .int 0]))]) [0, 1, 2] (by decide) rfl
  have hKc := hK.sub (tys' := []) [] rfl
  have hFc := va_free (wc := [(h0, .inr (16, [.ref h2, v0, v1, v2, v3, v4, v5, v6, v7, v8, v9, v10, v11, v12, v13, v14])), (h2, .inr (10, [.ref h3, v15, v16, v17, v18, v19, v20, v21, v22])), (h3, .inr (11, [v23, .int 0]))]) hD hS hA [0, 1, 2] rfl
  refine va_calli (va_runV (As := [.int 0]) (rest := [.ref h1]) ⟨hx, hb, hml, hown, hts⟩ (kX9_house_2 l dC dI g s.heap.size h0 h2 h3 v0 v1 v2 v3 v4 v5 v6 v7 v8 v9 v10 v11 v12 v13 v14 v15 v16 v17 v18 v19 v20 v21 v22 v23 ) (cwV 1 hts gL_house_X9_house rfl rfl rfl (by decide +kernel) ⟨Nat.le_of_ble_eq_true rfl, Nat.le_of_ble_eq_true rfl⟩) ⟨fun a U gg mk q => by obtain ⟨q0, q1, qP, qK, qD, qF⟩ := q; exact ⟨q0, q1, qP, va_K.moved (u := U) (U := U.calling gg mk a) (Vm.Alike.refl U.vm) qK, qD, ns_same qF⟩, va_recv hK hP (ci := 16) (q0 := 0) rfl rfl, fun U hU hW => ⟨rfl, by rw [hU], by rw [hU]; exact hPc, va_K.moved hW.alike hKc, hDc.weaken (fun _ _ _ _ => trivial), ns_call hF hS hFc hU hW⟩⟩ rfl rfl hl.1 rfl (lv_room (Nat.le_of_ble_eq_true rfl)) dL_house_3 ⟨Nat.le_of_ble_eq_true rfl, Nat.le_of_ble_eq_true rfl⟩) hS (fun q _ h => hFc q h) hFc (fun r9 u t H1 locs ht hvm hw hB hz1 hk1 hS => ?_)
  obtain rfl := hw
  obtain ⟨hP1, hK1, hD1⟩ := hB
  rw [ht] at hP1
  have hK1 := va_K.moved hvm.symm hK1
  obtain ⟨hP, hD⟩ := va_join (wr := [(h1, .inr (17, [v24, v25]))]) (w1 := [(h0, .inr (16, [.ref h2, v0, v1, v2, v3, v4, v5, v6, v7, v8, v9, v10, v11, v12, v13, v14])), (h2, .inr (10, [.ref h3, v15, v16, v17, v18, v19, v20, v21, v22])), (h3, .inr (11, [v23, .int 0]))]) hP hD [0, 1, 2] [3] rfl rfl (by decide) (by decide) hk1 hFc hP1 hD1
  have hK := (hK.sub (tys' := []) [] rfl).app hK1
  generalize H1 = H at hP hS ⊢
  have hP : va_P (dC, dI) vwCl [(h1, .inr (17, [v24, v25])), (h0, .inr (16, [.ref h2, v0, v1, v2, v3, v4, v5, v6, v7, v8, v9, v10, v11, v12, v13, v14])), (h2, .inr (10, [.ref h3, v15, v16, v17, v18, v19, v20, v21, v22])), (h3, .inr (11, [v23, .int 0]))] H := hP
  have hD : va_D A [(h1, .inr (17, [v24, v25])), (h0, .inr (16, [.ref h2, v0, v1, v2, v3, v4, v5, v6, v7, v8, v9, v10, v11, v12, v13, v14])), (h2, .inr (10, [.ref h3, v15, v16, v17, v18, v19, v20, v21, v22])), (h3, .inr (11, [v23, .int 0]))] := hD
  have hK : va_K (dC, dI) vwCl [] s := hK
  refine W.widen (k := 0) (n := 0) (Nat.le_of_ble_eq_true rfl) (Nat.le_of_ble_eq_true rfl) ?_
  refine lv_i2l (v := 0) hx hb dL_house_6 (by decide) ?_
  refine va_putN (D := (dC, dI)) (ci := 17) (v := .long 0) (ty := .long) (C := RX10) (T := TX10) (N := 2) hx hb hts (by decide +kernel) tyX10 tyX10_ok nmX10 hown hK hP hD hS 0 rfl rfl 0 (by decide) (va_Nw.use rfl (ns_f7 hF)) (fun _ h9 => h9) rfl (by decide +kernel) rfl rfl (Nat.le_of_ble_eq_true rfl) dL_house_7 (fun H locs hP hD hS => ?_)
  have hP : va_P (dC, dI) vwCl [(h1, .inr (17, [.long 0, v25])), (h0, .inr (16, [.ref h2, v0, v1, v2, v3, v4, v5, v6, v7, v8, v9, v10, v11, v12, v13, v14])), (h2, .inr (10, [.ref h3, v15, v16, v17, v18, v19, v20, v21, v22])), (h3, .inr (11, [v23, .int 0]))] H := hP
  have hD : va_D A [(h1, .inr (17, [.long 0, v25])), (h0, .inr (16, [.ref h2, v0, v1, v2, v3, v4, v5, v6, v7, v8, v9, v10, v11, v12, v13, v14])), (h2, .inr (10, [.ref h3, v15, v16, v17, v18, v19, v20, v21, v22])), (h3, .inr (11, [v23, .int 0]))] := hD
  refine lv_goto (tgt := 16) hx hb dL_house_10 (by decide) ?_
  refine lv_iconst (v := 0) hx hb dL_house_16 (by decide) ?_
  have hP9 := hP.sub (ws' := [(h1, .inr (17, [.long 0, v25])), (h0, .inr (16, [.ref h2, v0, v1, v2, v3, v4, v5, v6, v7, v8, v9, v10, v11, v12, v13, v14])), (h2, .inr (10, [.ref h3, v15, v16, v17, v18, v19, v20, v21, v22])), (h3, .inr (11, [v23, .int 0]))]) [0, 1, 2, 3] rfl
  have hD9 := hD.sub (ws' := [(h1, .inr (17, [.long 0, v25])), (h0, .inr (16, [.ref h2, v0, v1, v2, v3, v4, v5, v6, v7, v8, v9, v10, v11, v12, v13, v14])), (h2, .inr (10, [.ref h3, v15, v16, v17, v18, v19, v20, v21, v22])), (h3, .inr (11, [v23, .int 0]))]) [0, 1, 2, 3] (by decide) rfl
  have hK9 := hK.sub (tys' := []) [] rfl
  refine W.widen (k := 0) (n := 0) (Nat.le_of_ble_eq_true rfl) (Nat.le_of_ble_eq_true rfl) ?_
  exact W.iret (v := 0) hx hb hr (fun t ht hW => ⟨⟨_, (), rfl, rfl, by rw [ht]; exact hP9, va_K.moved hW.alike hK9, hD9⟩, hS.F ht⟩) hS.2.2 dL_house_17
set_option maxHeartbeats 4000000 in
set_option maxRecDepth 100000 in
theorem kX16_isIn_16 (l : Launch) (dC : Nat → ClassId) (dI : Nat → Nat → Nat) (g : Nat → Nat) (sz : Nat)  : Met l yX16_isIn wsX16_isIn ({ frames := 0, cells := 0, slots := 0, locals := 0 }) (va_Pc [.int 0, .int 0, .int 7] (fun U => U.heap.size = sz ∧ va_P (dC, dI) vwCl [] U.heap ∧ va_K (dC, dI) vwCl [] U ∧ va_D (fun _ => True) [] ∧ ns_F g (va_A [] sz) U U.heap)) (va_Qi (fun (r : Int32) (_ : Unit) => r = 1) (fun _ t => va_P (dC, dI) vwCl [] t.heap ∧ va_K (dC, dI) vwCl [] t ∧ va_D (va_A [] sz) []) (va_A [] sz)) 0 0 (va_A [] sz) := by
  refine Met.ofW (cc := cX16_isIn) (maxL := 3) (ret := (some .boolean)) (by decide) rfl ?_
  intro p e s m args below meth c s₁ B hml hv
  obtain ⟨rfl, hsz, hP, hK, hD0, hF⟩ := hv
  have hx := B.exec
  have hb := B.bytes
  have hr := B.returns
  have hts := atoms_spec (ws := wsX16_isIn) B.pre
  have hown : s.vm.findClass RX16 = some m.cls := findClass_of_methodNamed B.named
  have hlocks := B.notSynchronized
  subst hsz
  have hD := hD0.self (sz := s.heap.size)
  generalize hAe : va_A [] s.heap.size = A at hD hF ⊢
  have hA : ∀ q : Nat, s.heap.size ≤ q → A q := fun q h => by rw [← hAe]; exact Or.inr h
  have hS : va_S A s.heap s.heap [] := va_S.rf
  have hP : va_P (dC, dI) vwCl [] s.heap := hP
  have hl := lv_entry ([.int 0, .int 0, .int 7]) (n := 3) (Nat.le_of_ble_eq_true rfl)
  rw [lg_entry_eq]
  generalize (lg_sl ([.int 0, .int 0, .int 7]) ++ List.replicate (3 - (lg_sl ([.int 0, .int 0, .int 7])).length) Slot.unset).toArray = ls at hl ⊢
  have hl : lv_has ls 3 [(0, .int 0), (1, .int 0), (2, .int 7)] := hl
  refine lv_iload_n hx hb dX16_isIn_0 rfl (lv_at hl 0 rfl) ?_
  refine lv_iload_n hx hb dX16_isIn_1 rfl (lv_at hl 1 rfl) ?_
  refine lv_icmp_lt (tgt := 14) hx hb dX16_isIn_2 (by decide) (fun c1 => absurd c1 (by decide)) (fun c1 => ?_)
  refine lv_iload_n hx hb dX16_isIn_5 rfl (lv_at hl 0 rfl) ?_
  refine lv_iload_n hx hb dX16_isIn_6 rfl (lv_at hl 2 rfl) ?_
  refine lv_icmp_gt (tgt := 14) hx hb dX16_isIn_7 (by decide) (fun c2 => absurd c2 (by decide)) (fun c2 => ?_)
  refine lv_iconst (v := 1) hx hb dX16_isIn_10 (by decide) ?_
  refine lv_goto (tgt := 15) hx hb dX16_isIn_11 (by decide) ?_
  have hP9 := hP.sub (ws' := []) [] rfl
  have hD9 := hD.sub (ws' := []) [] (by decide) rfl
  have hK9 := hK.sub (tys' := []) [] rfl
  refine W.widen (k := 0) (n := 0) (Nat.le_of_ble_eq_true rfl) (Nat.le_of_ble_eq_true rfl) ?_
  exact W.zret (v := 1) hx hb hr (by decide) (fun t ht hW => ⟨⟨_, (), rfl, rfl, by rw [ht]; exact hP9, va_K.moved hW.alike hK9, hD9⟩, hS.F ht⟩) hS.2.2 dX16_isIn_15
set_option maxHeartbeats 4000000 in
set_option maxRecDepth 100000 in
theorem kX16_houseTold (l : Launch) (dC : Nat → ClassId) (dI : Nat → Nat → Nat) (g : Nat → Nat) (sz : Nat) (h0 : Nat) (h1 : Nat) (v0 : Value) (v1 : Value) (v2 : Value) : Met l yX16_houseTold wsX16_houseTold ({ frames := 3, cells := 2, slots := 12, locals := 53 }) (va_Pc [.ref h0, .int 0] (fun U => U.heap.size = sz ∧ va_P (dC, dI) vwCl [(h0, .inr (23, [v0, .ref h1, .int 20, .int 60, .ref (g 34), v1, .int 0, .int 0, .int 0])), (h1, .inr (6, [.int 0, v2, .int 0]))] U.heap ∧ va_K (dC, dI) vwCl [] U ∧ va_D (fun _ => True) [(h0, .inr (23, [v0, .ref h1, .int 20, .int 60, .ref (g 34), v1, .int 0, .int 0, .int 0])), (h1, .inr (6, [.int 0, v2, .int 0]))] ∧ ns_F g (va_A [(h0, .inr (23, [v0, .ref h1, .int 20, .int 60, .ref (g 34), v1, .int 0, .int 0, .int 0])), (h1, .inr (6, [.int 0, v2, .int 0]))] sz) U U.heap)) (va_Qi (fun (r : Int32) (_ : Unit) => r = 0) (fun _ t => ∃ k0 : Nat, ∃ k1 : Nat, ∃ kc2 : ClassId, va_P (dC, dI) vwCl [(h0, .inr (23, [v0, .ref h1, .int 20, .int 60, .ref (g 34), v1, .int 0, .int 0, .int 0])), (k0, .inr (5, [.int 0, .int (-1), .int 0, .ref h1])), (k1, .inl (kc2, 8, .inl (upd (upd (upd (upd (upd (upd (upd (upd (fun _ => 0) 0 0) 1 20) 2 60) 3 0) 4 0) 5 0) 6 0) 7 0))), (h1, .inr (6, [.int 0, v2, .int 0]))] t.heap ∧ va_K (dC, dI) vwCl [(kc2, .int)] t ∧ va_D (va_A [(h0, .inr (23, [v0, .ref h1, .int 20, .int 60, .ref (g 34), v1, .int 0, .int 0, .int 0])), (h1, .inr (6, [.int 0, v2, .int 0]))] sz) [(h0, .inr (23, [v0, .ref h1, .int 20, .int 60, .ref (g 34), v1, .int 0, .int 0, .int 0])), (k0, .inr (5, [.int 0, .int (-1), .int 0, .ref h1])), (k1, .inl (kc2, 8, .inl (upd (upd (upd (upd (upd (upd (upd (upd (fun _ => 0) 0 0) 1 20) 2 60) 3 0) 4 0) 5 0) 6 0) 7 0))), (h1, .inr (6, [.int 0, v2, .int 0]))]) (va_A [(h0, .inr (23, [v0, .ref h1, .int 20, .int 60, .ref (g 34), v1, .int 0, .int 0, .int 0])), (h1, .inr (6, [.int 0, v2, .int 0]))] sz)) 2 12 (va_A [(h0, .inr (23, [v0, .ref h1, .int 20, .int 60, .ref (g 34), v1, .int 0, .int 0, .int 0])), (h1, .inr (6, [.int 0, v2, .int 0]))] sz) := by
  refine Met.ofW (cc := cX16_houseTold) (maxL := 5) (ret := (some .int)) (by decide) rfl ?_
  intro p e s m args below meth c s₁ B hml hv
  obtain ⟨rfl, hsz, hP, hK, hD0, hF⟩ := hv
  have hx := B.exec
  have hb := B.bytes
  have hr := B.returns
  have hts := atoms_spec (ws := wsX16_houseTold) B.pre
  have hown : s.vm.findClass RX16 = some m.cls := findClass_of_methodNamed B.named
  have hlocks := B.notSynchronized
  subst hsz
  have hD := hD0.self (sz := s.heap.size)
  generalize hAe : va_A [(h0, .inr (23, [v0, .ref h1, .int 20, .int 60, .ref (g 34), v1, .int 0, .int 0, .int 0])), (h1, .inr (6, [.int 0, v2, .int 0]))] s.heap.size = A at hD hF ⊢
  have hA : ∀ q : Nat, s.heap.size ≤ q → A q := fun q h => by rw [← hAe]; exact Or.inr h
  have hS : va_S A s.heap s.heap [] := va_S.rf
  have hP : va_P (dC, dI) vwCl [(h0, .inr (23, [v0, .ref h1, .int 20, .int 60, .ref (g 34), v1, .int 0, .int 0, .int 0])), (h1, .inr (6, [.int 0, v2, .int 0]))] s.heap := hP
  have hl := lv_entry ([.ref h0, .int 0]) (n := 5) (Nat.le_of_ble_eq_true rfl)
  rw [lg_entry_eq]
  generalize (lg_sl ([.ref h0, .int 0]) ++ List.replicate (5 - (lg_sl ([.ref h0, .int 0])).length) Slot.unset).toArray = ls at hl ⊢
  have hl : lv_has ls 5 [(0, .ref h0), (1, .int 0)] := hl
  refine lv_iconst (v := 0) hx hb dX16_houseTold_0 (by decide) ?_
  refine lv_istore_n (lv' := [(2, .int 0), (0, .ref h0), (1, .int 0)]) hx hb dX16_houseTold_1 rfl hl (by decide) rfl (fun ls hl => ?_)
  refine lv_aload_n hx hb dX16_houseTold_2 rfl (lv_at hl 1 rfl) ?_
  refine va_get (D := (dC, dI)) (ci := 23) (v := .ref h1) (C := RX16) (T := TX16) (N := 9) hx hb hts (by decide +kernel) hown hK hP 0 rfl rfl 1 (by decide) (hts (.fieldLink RX16 10 "NestprintModel" "nodes" "Ljava/util/ArrayList;") (by decide +kernel)) (fun _ h9 => h9) rfl dX16_houseTold_3 ?_
  have hPc := hP.sub (ws' := [(h1, .inr (6, [.int 0, v2, .int 0]))]) [1] rfl
  have hDc := hD.sub (ws' := [(h1, .inr (6, [.int 0, v2, .int 0]))]) [1] (by decide) rfl
  have hKc := hK.sub (tys' := []) [] rfl
  have hFc := va_free (wc := [(h1, .inr (6, [.int 0, v2, .int 0]))]) hD hS hA [1] rfl
  refine va_callr (va_runV (As := []) (rest := []) ⟨hx, hb, hml, hown, hts⟩ (kJx4a65c_iterator_32c93 l dC dI g s.heap.size h1 v2 (.int 0) ) (cwV 0 hts gX16_houseTold_Jx4a65c_iterator_32c93 rfl rfl rfl (by decide +kernel) ⟨Nat.le_of_ble_eq_true rfl, Nat.le_of_ble_eq_true rfl⟩) ⟨fun a U gg mk q => by obtain ⟨q0, q1, qP, qK, qD, qF⟩ := q; exact ⟨q0, q1, qP, va_K.moved (u := U) (U := U.calling gg mk a) (Vm.Alike.refl U.vm) qK, qD, ns_same qF⟩, va_recv hK hP (ci := 6) (q0 := 1) rfl rfl, fun U hU hW => ⟨rfl, by rw [hU], by rw [hU]; exact hPc, va_K.moved hW.alike hKc, hDc.weaken (fun _ _ _ _ => trivial), ns_call hF hS hFc hU hW⟩⟩ rfl rfl hl.1 rfl (lv_room (Nat.le_of_ble_eq_true rfl)) dX16_houseTold_6 ⟨Nat.le_of_ble_eq_true rfl, Nat.le_of_ble_eq_true rfl⟩) hS (fun q _ h => hFc q h) hFc (fun u r9 t H1 locs ht hvm hw hB hz1 hk1 hS => ?_)
  obtain ⟨q1, rfl, hP1, hK1, hD1⟩ := hB
  rw [ht] at hP1
  have hK1 := va_K.moved hvm.symm hK1
  obtain ⟨hP, hD⟩ := va_join (wr := [(h0, .inr (23, [v0, .ref h1, .int 20, .int 60, .ref (g 34), v1, .int 0, .int 0, .int 0]))]) (w1 := [(q1, .inr (5, [.int 0, .int (-1), .int 0, .ref h1])), (h1, .inr (6, [.int 0, v2, .int 0]))]) hP hD [1] [0] rfl rfl (by decide) (by decide) hk1 hFc hP1 hD1
  have hK := (hK.sub (tys' := []) [] rfl).app hK1
  generalize H1 = H at hP hS ⊢
  have hP : va_P (dC, dI) vwCl [(h0, .inr (23, [v0, .ref h1, .int 20, .int 60, .ref (g 34), v1, .int 0, .int 0, .int 0])), (q1, .inr (5, [.int 0, .int (-1), .int 0, .ref h1])), (h1, .inr (6, [.int 0, v2, .int 0]))] H := hP
  have hD : va_D A [(h0, .inr (23, [v0, .ref h1, .int 20, .int 60, .ref (g 34), v1, .int 0, .int 0, .int 0])), (q1, .inr (5, [.int 0, .int (-1), .int 0, .ref h1])), (h1, .inr (6, [.int 0, v2, .int 0]))] := hD
  have hK : va_K (dC, dI) vwCl [] s := hK
  refine W.widen (k := 1) (n := 4) (Nat.le_of_ble_eq_true rfl) (Nat.le_of_ble_eq_true rfl) ?_
  refine lv_astore_n (lv' := [(3, .ref q1), (2, .int 0), (0, .ref h0), (1, .int 0)]) hx hb dX16_houseTold_9 rfl hl (by decide) rfl (fun ls hl => ?_)
  refine lv_aload_n hx hb dX16_houseTold_10 rfl (lv_at hl 0 rfl) ?_
  have hPc := hP.sub (ws' := [(q1, .inr (5, [.int 0, .int (-1), .int 0, .ref h1])), (h1, .inr (6, [.int 0, v2, .int 0]))]) [1, 2] rfl
  have hDc := hD.sub (ws' := [(q1, .inr (5, [.int 0, .int (-1), .int 0, .ref h1])), (h1, .inr (6, [.int 0, v2, .int 0]))]) [1, 2] (by decide) rfl
  have hKc := hK.sub (tys' := []) [] rfl
  have hFc := va_free (wc := [(q1, .inr (5, [.int 0, .int (-1), .int 0, .ref h1])), (h1, .inr (6, [.int 0, v2, .int 0]))]) hD hS hA [1, 2] rfl
  refine va_callFi (va_runF (hK.1 5 _ rfl).2 (As := []) (rest := []) ⟨hx, hb, hml, hown, hts⟩ (kJx35411_hasNext_aae02 l dC dI g H.size q1 h1 (.int (-1)) (.int 0) (.int 0) v2 ) (va_cwF 0 hts gX16_houseTold_Jx35411_hasNext_aae02_f133Jx35411 rfl rfl rfl (ns_f51 hF) (by decide +kernel) ⟨Nat.le_of_ble_eq_true rfl, Nat.le_of_ble_eq_true rfl⟩) ⟨fun a U gg mk q => by obtain ⟨q0, q1, qP, qK, qD, qF⟩ := q; exact ⟨q0, q1, qP, va_K.moved (u := U) (U := U.calling gg mk a) (Vm.Alike.refl U.vm) qK, qD, ns_same qF⟩, va_recv hK hP (ci := 5) (q0 := 1) rfl rfl, fun U hU hW => ⟨rfl, by rw [hU], by rw [hU]; exact hPc, va_K.moved hW.alike hKc, hDc.weaken (fun _ _ _ _ => trivial), ns_call hF hS hFc hU hW⟩⟩ rfl rfl hl.1 rfl (lv_room (Nat.le_of_ble_eq_true rfl)) dX16_houseTold_11 ⟨Nat.le_of_ble_eq_true rfl, Nat.le_of_ble_eq_true rfl⟩) hS (fun q _ h => hFc q h) hFc (fun r9 u t H1 locs ht hvm hw hB hz1 hk1 hS => ?_)
  obtain rfl := hw
  obtain ⟨hP1, hK1, hD1⟩ := hB
  rw [ht] at hP1
  have hK1 := va_K.moved hvm.symm hK1
  obtain ⟨hP, hD⟩ := va_join (wr := [(h0, .inr (23, [v0, .ref h1, .int 20, .int 60, .ref (g 34), v1, .int 0, .int 0, .int 0]))]) (w1 := [(q1, .inr (5, [.int 0, .int (-1), .int 0, .ref h1])), (h1, .inr (6, [.int 0, v2, .int 0]))]) hP hD [1, 2] [0] rfl rfl (by decide) (by decide) hk1 hFc hP1 hD1
  have hK := (hK.sub (tys' := []) [] rfl).app hK1
  generalize H1 = H at hP hS ⊢
  have hP : va_P (dC, dI) vwCl [(h0, .inr (23, [v0, .ref h1, .int 20, .int 60, .ref (g 34), v1, .int 0, .int 0, .int 0])), (q1, .inr (5, [.int 0, .int (-1), .int 0, .ref h1])), (h1, .inr (6, [.int 0, v2, .int 0]))] H := hP
  have hD : va_D A [(h0, .inr (23, [v0, .ref h1, .int 20, .int 60, .ref (g 34), v1, .int 0, .int 0, .int 0])), (q1, .inr (5, [.int 0, .int (-1), .int 0, .ref h1])), (h1, .inr (6, [.int 0, v2, .int 0]))] := hD
  have hK : va_K (dC, dI) vwCl [] s := hK
  refine W.widen (k := 1) (n := 4) (Nat.le_of_ble_eq_true rfl) (Nat.le_of_ble_eq_true rfl) ?_
  refine lv_if_eq (tgt := 41) hx hb dX16_houseTold_16 (by decide) (fun c2 => ?_) (fun c2 => absurd (by decide) c2)
  refine lv_bipush (v := 8) hx hb dX16_houseTold_41 (by decide) ?_
  refine va_newa (atype := .int) hx hb (hts (.arrayClass .int) (by decide +kernel)) rfl hK hP hD hS hA (N' := 8) (a0 := (8, .inl (fun _ => 0))) (fun _ => rfl) (by decide) (by decide) (Nat.le_of_ble_eq_true rfl) (Nat.le_of_ble_eq_true rfl) (Nat.le_of_ble_eq_true rfl) dX16_houseTold_43 (fun q3 cyq3 H hK hP hD hS => ?_)
  have hP : va_P (dC, dI) vwCl [(h0, .inr (23, [v0, .ref h1, .int 20, .int 60, .ref (g 34), v1, .int 0, .int 0, .int 0])), (q1, .inr (5, [.int 0, .int (-1), .int 0, .ref h1])), (h1, .inr (6, [.int 0, v2, .int 0])), (q3, .inl (cyq3, 8, .inl (fun _ => 0)))] H := hP
  have hD : va_D A [(h0, .inr (23, [v0, .ref h1, .int 20, .int 60, .ref (g 34), v1, .int 0, .int 0, .int 0])), (q1, .inr (5, [.int 0, .int (-1), .int 0, .ref h1])), (h1, .inr (6, [.int 0, v2, .int 0])), (q3, .inl (cyq3, 8, .inl (fun _ => 0)))] := hD
  have hK : va_K (dC, dI) vwCl [(cyq3, .int)] s := hK
  refine W.widen (k := 2) (n := 12) (Nat.le_of_ble_eq_true rfl) (Nat.le_of_ble_eq_true rfl) ?_
  refine lv_dup hx hb dX16_houseTold_45 rfl ?_
  refine lv_iconst (v := 0) hx hb dX16_houseTold_46 (by decide) ?_
  refine lv_aload_n hx hb dX16_houseTold_47 rfl (lv_at hl 2 rfl) ?_
  refine va_get (D := (dC, dI)) (ci := 23) (v := .ref h1) (C := RX16) (T := TX16) (N := 9) hx hb hts (by decide +kernel) hown hK hP 0 rfl rfl 1 (by decide) (hts (.fieldLink RX16 10 "NestprintModel" "nodes" "Ljava/util/ArrayList;") (by decide +kernel)) (fun _ h9 => h9) rfl dX16_houseTold_48 ?_
  have hPc := hP.sub (ws' := [(h1, .inr (6, [.int 0, v2, .int 0]))]) [2] rfl
  have hDc := hD.sub (ws' := [(h1, .inr (6, [.int 0, v2, .int 0]))]) [2] (by decide) rfl
  have hKc := hK.sub (tys' := []) [] rfl
  have hFc := va_free (wc := [(h1, .inr (6, [.int 0, v2, .int 0]))]) hD hS hA [2] rfl
  refine va_calli (va_runV (As := []) (rest := [.int 0, .ref q3, .ref q3]) ⟨hx, hb, hml, hown, hts⟩ (kJx4a65c_size_8abf5 l dC dI g H.size h1 (.int 0) v2 ) (cwV 0 hts gX16_houseTold_Jx4a65c_size_8abf5 rfl rfl rfl (by decide +kernel) ⟨Nat.le_of_ble_eq_true rfl, Nat.le_of_ble_eq_true rfl⟩) ⟨fun a U gg mk q => by obtain ⟨q0, q1, qP, qK, qD, qF⟩ := q; exact ⟨q0, q1, qP, va_K.moved (u := U) (U := U.calling gg mk a) (Vm.Alike.refl U.vm) qK, qD, ns_same qF⟩, va_recv hK hP (ci := 6) (q0 := 2) rfl rfl, fun U hU hW => ⟨rfl, by rw [hU], by rw [hU]; exact hPc, va_K.moved hW.alike hKc, hDc.weaken (fun _ _ _ _ => trivial), ns_call hF hS hFc hU hW⟩⟩ rfl rfl hl.1 rfl (lv_room (Nat.le_of_ble_eq_true rfl)) dX16_houseTold_51 ⟨Nat.le_of_ble_eq_true rfl, Nat.le_of_ble_eq_true rfl⟩) hS (fun q _ h => hFc q h) hFc (fun r9 u t H1 locs ht hvm hw hB hz1 hk1 hS => ?_)
  obtain rfl := hw
  obtain ⟨hP1, hK1, hD1⟩ := hB
  rw [ht] at hP1
  have hK1 := va_K.moved hvm.symm hK1
  obtain ⟨hP, hD⟩ := va_join (wr := [(h0, .inr (23, [v0, .ref h1, .int 20, .int 60, .ref (g 34), v1, .int 0, .int 0, .int 0])), (q1, .inr (5, [.int 0, .int (-1), .int 0, .ref h1])), (q3, .inl (cyq3, 8, .inl (fun _ => 0)))]) (w1 := [(h1, .inr (6, [.int 0, v2, .int 0]))]) hP hD [2] [0, 1, 3] rfl rfl (by decide) (by decide) hk1 hFc hP1 hD1
  have hK := (hK.sub (tys' := [(cyq3, .int)]) [0] rfl).app hK1
  generalize H1 = H at hP hS ⊢
  have hP : va_P (dC, dI) vwCl [(h0, .inr (23, [v0, .ref h1, .int 20, .int 60, .ref (g 34), v1, .int 0, .int 0, .int 0])), (q1, .inr (5, [.int 0, .int (-1), .int 0, .ref h1])), (q3, .inl (cyq3, 8, .inl (fun _ => 0))), (h1, .inr (6, [.int 0, v2, .int 0]))] H := hP
  have hD : va_D A [(h0, .inr (23, [v0, .ref h1, .int 20, .int 60, .ref (g 34), v1, .int 0, .int 0, .int 0])), (q1, .inr (5, [.int 0, .int (-1), .int 0, .ref h1])), (q3, .inl (cyq3, 8, .inl (fun _ => 0))), (h1, .inr (6, [.int 0, v2, .int 0]))] := hD
  have hK : va_K (dC, dI) vwCl [(cyq3, .int)] s := hK
  refine W.widen (k := 2) (n := 12) (Nat.le_of_ble_eq_true rfl) (Nat.le_of_ble_eq_true rfl) ?_
  refine va_iast hx hb hK hP hD hS 2 0 rfl rfl (vp_in_nI (n := 0) (by decide) (by decide)) dX16_houseTold_54 (fun H locs hP hD hS => ?_)
  have hP : va_P (dC, dI) vwCl [(h0, .inr (23, [v0, .ref h1, .int 20, .int 60, .ref (g 34), v1, .int 0, .int 0, .int 0])), (q1, .inr (5, [.int 0, .int (-1), .int 0, .ref h1])), (q3, .inl (cyq3, 8, .inl (upd (fun _ => 0) 0 0))), (h1, .inr (6, [.int 0, v2, .int 0]))] H := hP
  have hD : va_D A [(h0, .inr (23, [v0, .ref h1, .int 20, .int 60, .ref (g 34), v1, .int 0, .int 0, .int 0])), (q1, .inr (5, [.int 0, .int (-1), .int 0, .ref h1])), (q3, .inl (cyq3, 8, .inl (upd (fun _ => 0) 0 0))), (h1, .inr (6, [.int 0, v2, .int 0]))] := hD
  refine lv_dup hx hb dX16_houseTold_55 rfl ?_
  refine lv_iconst (v := 1) hx hb dX16_houseTold_56 (by decide) ?_
  refine lv_aload_n hx hb dX16_houseTold_57 rfl (lv_at hl 2 rfl) ?_
  refine va_get (D := (dC, dI)) (ci := 23) (v := .int 20) (C := RX16) (T := TX16) (N := 9) hx hb hts (by decide +kernel) hown hK hP 0 rfl rfl 2 (by decide) (hts (.fieldLink RX16 16 "NestprintModel" "width" "I") (by decide +kernel)) (fun _ h9 => h9) rfl dX16_houseTold_58 ?_
  refine va_iast hx hb hK hP hD hS 2 0 rfl rfl (vp_in_nI (n := 1) (by decide) (by decide)) dX16_houseTold_61 (fun H locs hP hD hS => ?_)
  have hP : va_P (dC, dI) vwCl [(h0, .inr (23, [v0, .ref h1, .int 20, .int 60, .ref (g 34), v1, .int 0, .int 0, .int 0])), (q1, .inr (5, [.int 0, .int (-1), .int 0, .ref h1])), (q3, .inl (cyq3, 8, .inl (upd (upd (fun _ => 0) 0 0) 1 20))), (h1, .inr (6, [.int 0, v2, .int 0]))] H := hP
  have hD : va_D A [(h0, .inr (23, [v0, .ref h1, .int 20, .int 60, .ref (g 34), v1, .int 0, .int 0, .int 0])), (q1, .inr (5, [.int 0, .int (-1), .int 0, .ref h1])), (q3, .inl (cyq3, 8, .inl (upd (upd (fun _ => 0) 0 0) 1 20))), (h1, .inr (6, [.int 0, v2, .int 0]))] := hD
  refine lv_dup hx hb dX16_houseTold_62 rfl ?_
  refine lv_iconst (v := 2) hx hb dX16_houseTold_63 (by decide) ?_
  refine lv_aload_n hx hb dX16_houseTold_64 rfl (lv_at hl 2 rfl) ?_
  refine va_get (D := (dC, dI)) (ci := 23) (v := .int 60) (C := RX16) (T := TX16) (N := 9) hx hb hts (by decide +kernel) hown hK hP 0 rfl rfl 3 (by decide) (hts (.fieldLink RX16 20 "NestprintModel" "ribbon" "I") (by decide +kernel)) (fun _ h9 => h9) rfl dX16_houseTold_65 ?_
  refine va_iast hx hb hK hP hD hS 2 0 rfl rfl (vp_in_nI (n := 2) (by decide) (by decide)) dX16_houseTold_68 (fun H locs hP hD hS => ?_)
  have hP : va_P (dC, dI) vwCl [(h0, .inr (23, [v0, .ref h1, .int 20, .int 60, .ref (g 34), v1, .int 0, .int 0, .int 0])), (q1, .inr (5, [.int 0, .int (-1), .int 0, .ref h1])), (q3, .inl (cyq3, 8, .inl (upd (upd (upd (fun _ => 0) 0 0) 1 20) 2 60))), (h1, .inr (6, [.int 0, v2, .int 0]))] H := hP
  have hD : va_D A [(h0, .inr (23, [v0, .ref h1, .int 20, .int 60, .ref (g 34), v1, .int 0, .int 0, .int 0])), (q1, .inr (5, [.int 0, .int (-1), .int 0, .ref h1])), (q3, .inl (cyq3, 8, .inl (upd (upd (upd (fun _ => 0) 0 0) 1 20) 2 60))), (h1, .inr (6, [.int 0, v2, .int 0]))] := hD
  refine lv_dup hx hb dX16_houseTold_69 rfl ?_
  refine lv_iconst (v := 3) hx hb dX16_houseTold_70 (by decide) ?_
  refine lv_aload_n hx hb dX16_houseTold_71 rfl (lv_at hl 2 rfl) ?_
  refine va_get (D := (dC, dI)) (ci := 23) (v := .ref (g 34)) (C := RX16) (T := TX16) (N := 9) hx hb hts (by decide +kernel) hown hK hP 0 rfl rfl 4 (by decide) (hts (.fieldLink RX16 25 "NestprintModel" "typed" "Ljava/lang/String;") (by decide +kernel)) (fun _ h9 => h9) rfl dX16_houseTold_72 ?_
  have hPc := hP.sub (ws' := []) [] rfl
  have hDc := hD.sub (ws' := []) [] (by decide) rfl
  have hKc := hK.sub (tys' := []) [] rfl
  have hFc := va_free (wc := []) hD hS hA [] rfl
  refine va_calli (va_runV (As := []) (rest := [.int 3, .ref q3, .ref q3]) ⟨hx, hb, hml, hown, hts⟩ (kJ0_length_8abf5 l dC dI g H.size  ) (cwV 0 hts gX16_houseTold_J0_length_8abf5 rfl rfl rfl (by decide +kernel) ⟨Nat.le_of_ble_eq_true rfl, Nat.le_of_ble_eq_true rfl⟩) ⟨fun a U gg mk q => by obtain ⟨q0, q1, qP, qK, qD, qF⟩ := q; exact ⟨q0, q1, qP, va_K.moved (u := U) (U := U.calling gg mk a) (Vm.Alike.refl U.vm) qK, qD, ns_same qF⟩, va_Orecv (ns_f37 hF) hS, fun U hU hW => ⟨rfl, by rw [hU], by rw [hU]; exact hPc, va_K.moved hW.alike hKc, hDc.weaken (fun _ _ _ _ => trivial), ns_call hF hS hFc hU hW⟩⟩ rfl rfl hl.1 rfl (lv_room (Nat.le_of_ble_eq_true rfl)) dX16_houseTold_75 ⟨Nat.le_of_ble_eq_true rfl, Nat.le_of_ble_eq_true rfl⟩) hS (fun q _ h => hFc q h) hFc (fun r9 u t H1 locs ht hvm hw hB hz1 hk1 hS => ?_)
  obtain rfl := hw
  obtain ⟨hP1, hK1, hD1⟩ := hB
  rw [ht] at hP1
  have hK1 := va_K.moved hvm.symm hK1
  obtain ⟨hP, hD⟩ := va_join (wr := [(h0, .inr (23, [v0, .ref h1, .int 20, .int 60, .ref (g 34), v1, .int 0, .int 0, .int 0])), (q1, .inr (5, [.int 0, .int (-1), .int 0, .ref h1])), (q3, .inl (cyq3, 8, .inl (upd (upd (upd (fun _ => 0) 0 0) 1 20) 2 60))), (h1, .inr (6, [.int 0, v2, .int 0]))]) (w1 := []) hP hD [] [0, 1, 2, 3] rfl rfl (by decide) (by decide) hk1 hFc hP1 hD1
  have hK := (hK.sub (tys' := [(cyq3, .int)]) [0] rfl).app hK1
  generalize H1 = H at hP hS ⊢
  have hP : va_P (dC, dI) vwCl [(h0, .inr (23, [v0, .ref h1, .int 20, .int 60, .ref (g 34), v1, .int 0, .int 0, .int 0])), (q1, .inr (5, [.int 0, .int (-1), .int 0, .ref h1])), (q3, .inl (cyq3, 8, .inl (upd (upd (upd (fun _ => 0) 0 0) 1 20) 2 60))), (h1, .inr (6, [.int 0, v2, .int 0]))] H := hP
  have hD : va_D A [(h0, .inr (23, [v0, .ref h1, .int 20, .int 60, .ref (g 34), v1, .int 0, .int 0, .int 0])), (q1, .inr (5, [.int 0, .int (-1), .int 0, .ref h1])), (q3, .inl (cyq3, 8, .inl (upd (upd (upd (fun _ => 0) 0 0) 1 20) 2 60))), (h1, .inr (6, [.int 0, v2, .int 0]))] := hD
  have hK : va_K (dC, dI) vwCl [(cyq3, .int)] s := hK
  refine W.widen (k := 2) (n := 12) (Nat.le_of_ble_eq_true rfl) (Nat.le_of_ble_eq_true rfl) ?_
  refine va_iast hx hb hK hP hD hS 2 0 rfl rfl (vp_in_nI (n := 3) (by decide) (by decide)) dX16_houseTold_78 (fun H locs hP hD hS => ?_)
  have hP : va_P (dC, dI) vwCl [(h0, .inr (23, [v0, .ref h1, .int 20, .int 60, .ref (g 34), v1, .int 0, .int 0, .int 0])), (q1, .inr (5, [.int 0, .int (-1), .int 0, .ref h1])), (q3, .inl (cyq3, 8, .inl (upd (upd (upd (upd (fun _ => 0) 0 0) 1 20) 2 60) 3 0))), (h1, .inr (6, [.int 0, v2, .int 0]))] H := hP
  have hD : va_D A [(h0, .inr (23, [v0, .ref h1, .int 20, .int 60, .ref (g 34), v1, .int 0, .int 0, .int 0])), (q1, .inr (5, [.int 0, .int (-1), .int 0, .ref h1])), (q3, .inl (cyq3, 8, .inl (upd (upd (upd (upd (fun _ => 0) 0 0) 1 20) 2 60) 3 0))), (h1, .inr (6, [.int 0, v2, .int 0]))] := hD
  refine lv_dup hx hb dX16_houseTold_79 rfl ?_
  refine lv_iconst (v := 4) hx hb dX16_houseTold_80 (by decide) ?_
  refine lv_aload_n hx hb dX16_houseTold_81 rfl (lv_at hl 2 rfl) ?_
  refine va_get (D := (dC, dI)) (ci := 23) (v := .int 0) (C := RX16) (T := TX16) (N := 9) hx hb hts (by decide +kernel) hown hK hP 0 rfl rfl 6 (by decide) (hts (.fieldLink RX16 272 "NestprintModel" "counted" "I") (by decide +kernel)) (fun _ h9 => h9) rfl dX16_houseTold_82 ?_
  refine va_iast hx hb hK hP hD hS 2 0 rfl rfl (vp_in_nI (n := 4) (by decide) (by decide)) dX16_houseTold_85 (fun H locs hP hD hS => ?_)
  have hP : va_P (dC, dI) vwCl [(h0, .inr (23, [v0, .ref h1, .int 20, .int 60, .ref (g 34), v1, .int 0, .int 0, .int 0])), (q1, .inr (5, [.int 0, .int (-1), .int 0, .ref h1])), (q3, .inl (cyq3, 8, .inl (upd (upd (upd (upd (upd (fun _ => 0) 0 0) 1 20) 2 60) 3 0) 4 0))), (h1, .inr (6, [.int 0, v2, .int 0]))] H := hP
  have hD : va_D A [(h0, .inr (23, [v0, .ref h1, .int 20, .int 60, .ref (g 34), v1, .int 0, .int 0, .int 0])), (q1, .inr (5, [.int 0, .int (-1), .int 0, .ref h1])), (q3, .inl (cyq3, 8, .inl (upd (upd (upd (upd (upd (fun _ => 0) 0 0) 1 20) 2 60) 3 0) 4 0))), (h1, .inr (6, [.int 0, v2, .int 0]))] := hD
  refine lv_dup hx hb dX16_houseTold_86 rfl ?_
  refine lv_iconst (v := 5) hx hb dX16_houseTold_87 (by decide) ?_
  refine lv_aload_n hx hb dX16_houseTold_88 rfl (lv_at hl 2 rfl) ?_
  refine va_get (D := (dC, dI)) (ci := 23) (v := .int 0) (C := RX16) (T := TX16) (N := 9) hx hb hts (by decide +kernel) hown hK hP 0 rfl rfl 7 (by decide) (hts (.fieldLink RX16 275 "NestprintModel" "knocks" "I") (by decide +kernel)) (fun _ h9 => h9) rfl dX16_houseTold_89 ?_
  refine va_iast hx hb hK hP hD hS 2 0 rfl rfl (vp_in_nI (n := 5) (by decide) (by decide)) dX16_houseTold_92 (fun H locs hP hD hS => ?_)
  have hP : va_P (dC, dI) vwCl [(h0, .inr (23, [v0, .ref h1, .int 20, .int 60, .ref (g 34), v1, .int 0, .int 0, .int 0])), (q1, .inr (5, [.int 0, .int (-1), .int 0, .ref h1])), (q3, .inl (cyq3, 8, .inl (upd (upd (upd (upd (upd (upd (fun _ => 0) 0 0) 1 20) 2 60) 3 0) 4 0) 5 0))), (h1, .inr (6, [.int 0, v2, .int 0]))] H := hP
  have hD : va_D A [(h0, .inr (23, [v0, .ref h1, .int 20, .int 60, .ref (g 34), v1, .int 0, .int 0, .int 0])), (q1, .inr (5, [.int 0, .int (-1), .int 0, .ref h1])), (q3, .inl (cyq3, 8, .inl (upd (upd (upd (upd (upd (upd (fun _ => 0) 0 0) 1 20) 2 60) 3 0) 4 0) 5 0))), (h1, .inr (6, [.int 0, v2, .int 0]))] := hD
  refine lv_dup hx hb dX16_houseTold_93 rfl ?_
  refine lv_bipush (v := 6) hx hb dX16_houseTold_94 (by decide) ?_
  refine lv_aload_n hx hb dX16_houseTold_96 rfl (lv_at hl 2 rfl) ?_
  refine va_get (D := (dC, dI)) (ci := 23) (v := .int 0) (C := RX16) (T := TX16) (N := 9) hx hb hts (by decide +kernel) hown hK hP 0 rfl rfl 8 (by decide) (hts (.fieldLink RX16 193 "NestprintModel" "ever" "I") (by decide +kernel)) (fun _ h9 => h9) rfl dX16_houseTold_97 ?_
  refine va_iast hx hb hK hP hD hS 2 0 rfl rfl (vp_in_nI (n := 6) (by decide) (by decide)) dX16_houseTold_100 (fun H locs hP hD hS => ?_)
  have hP : va_P (dC, dI) vwCl [(h0, .inr (23, [v0, .ref h1, .int 20, .int 60, .ref (g 34), v1, .int 0, .int 0, .int 0])), (q1, .inr (5, [.int 0, .int (-1), .int 0, .ref h1])), (q3, .inl (cyq3, 8, .inl (upd (upd (upd (upd (upd (upd (upd (fun _ => 0) 0 0) 1 20) 2 60) 3 0) 4 0) 5 0) 6 0))), (h1, .inr (6, [.int 0, v2, .int 0]))] H := hP
  have hD : va_D A [(h0, .inr (23, [v0, .ref h1, .int 20, .int 60, .ref (g 34), v1, .int 0, .int 0, .int 0])), (q1, .inr (5, [.int 0, .int (-1), .int 0, .ref h1])), (q3, .inl (cyq3, 8, .inl (upd (upd (upd (upd (upd (upd (upd (fun _ => 0) 0 0) 1 20) 2 60) 3 0) 4 0) 5 0) 6 0))), (h1, .inr (6, [.int 0, v2, .int 0]))] := hD
  refine lv_dup hx hb dX16_houseTold_101 rfl ?_
  refine lv_bipush (v := 7) hx hb dX16_houseTold_102 (by decide) ?_
  refine lv_iload_n hx hb dX16_houseTold_104 rfl (lv_at hl 1 rfl) ?_
  refine va_iast hx hb hK hP hD hS 2 0 rfl rfl (vp_in_nI (n := 7) (by decide) (by decide)) dX16_houseTold_105 (fun H locs hP hD hS => ?_)
  have hP : va_P (dC, dI) vwCl [(h0, .inr (23, [v0, .ref h1, .int 20, .int 60, .ref (g 34), v1, .int 0, .int 0, .int 0])), (q1, .inr (5, [.int 0, .int (-1), .int 0, .ref h1])), (q3, .inl (cyq3, 8, .inl (upd (upd (upd (upd (upd (upd (upd (upd (fun _ => 0) 0 0) 1 20) 2 60) 3 0) 4 0) 5 0) 6 0) 7 0))), (h1, .inr (6, [.int 0, v2, .int 0]))] H := hP
  have hD : va_D A [(h0, .inr (23, [v0, .ref h1, .int 20, .int 60, .ref (g 34), v1, .int 0, .int 0, .int 0])), (q1, .inr (5, [.int 0, .int (-1), .int 0, .ref h1])), (q3, .inl (cyq3, 8, .inl (upd (upd (upd (upd (upd (upd (upd (upd (fun _ => 0) 0 0) 1 20) 2 60) 3 0) 4 0) 5 0) 6 0) 7 0))), (h1, .inr (6, [.int 0, v2, .int 0]))] := hD
  refine lv_astore_n (lv' := [(3, .ref q3), (2, .int 0), (0, .ref h0), (1, .int 0)]) hx hb dX16_houseTold_106 rfl hl (by decide) rfl (fun ls hl => ?_)
  refine lv_aload_n hx hb dX16_houseTold_107 rfl (lv_at hl 0 rfl) ?_
  refine lv_iload_n hx hb dX16_houseTold_108 rfl (lv_at hl 3 rfl) ?_
  refine va_iald hx hb hK hP 2 0 rfl rfl (vp_in_nI (n := 0) (by decide) (by decide)) dX16_houseTold_109 ?_
  refine lv_topi (fun y4 ey4 => ?_)
  obtain rfl : y4 = 0 := ey4
  have hP9 := hP.sub (ws' := [(h0, .inr (23, [v0, .ref h1, .int 20, .int 60, .ref (g 34), v1, .int 0, .int 0, .int 0])), (q1, .inr (5, [.int 0, .int (-1), .int 0, .ref h1])), (q3, .inl (cyq3, 8, .inl (upd (upd (upd (upd (upd (upd (upd (upd (fun _ => 0) 0 0) 1 20) 2 60) 3 0) 4 0) 5 0) 6 0) 7 0))), (h1, .inr (6, [.int 0, v2, .int 0]))]) [0, 1, 2, 3] rfl
  have hD9 := hD.sub (ws' := [(h0, .inr (23, [v0, .ref h1, .int 20, .int 60, .ref (g 34), v1, .int 0, .int 0, .int 0])), (q1, .inr (5, [.int 0, .int (-1), .int 0, .ref h1])), (q3, .inl (cyq3, 8, .inl (upd (upd (upd (upd (upd (upd (upd (upd (fun _ => 0) 0 0) 1 20) 2 60) 3 0) 4 0) 5 0) 6 0) 7 0))), (h1, .inr (6, [.int 0, v2, .int 0]))]) [0, 1, 2, 3] (by decide) rfl
  have hK9 := hK.sub (tys' := [(cyq3, .int)]) [0] rfl
  refine W.widen (k := 2) (n := 12) (Nat.le_of_ble_eq_true rfl) (Nat.le_of_ble_eq_true rfl) ?_
  exact W.iret (v := 0) hx hb hr (fun t ht hW => ⟨⟨_, (), rfl, rfl, q1, q3, cyq3, by rw [ht]; exact hP9, va_K.moved hW.alike hK9, hD9⟩, hS.F ht⟩) hS.2.2 dX16_houseTold_110
set_option maxHeartbeats 4000000 in
set_option maxRecDepth 100000 in
theorem kX16_house_2 (l : Launch) (dC : Nat → ClassId) (dI : Nat → Nat → Nat) (g : Nat → Nat) (sz : Nat) (h0 : Nat) (h1 : Nat) (v0 : Value) (v1 : Value) (v2 : Value) : Met l yX16_house wsX16_house ({ frames := 4, cells := 2, slots := 12, locals := 77 }) (va_Pc [.ref h0, .int 0] (fun U => U.heap.size = sz ∧ va_P (dC, dI) vwCl [(h0, .inr (23, [v0, .ref h1, .int 20, .int 60, .ref (g 34), v1, .int 0, .int 0, .int 0])), (h1, .inr (6, [.int 0, v2, .int 0]))] U.heap ∧ va_K (dC, dI) vwCl [] U ∧ va_D (fun _ => True) [(h0, .inr (23, [v0, .ref h1, .int 20, .int 60, .ref (g 34), v1, .int 0, .int 0, .int 0])), (h1, .inr (6, [.int 0, v2, .int 0]))] ∧ ns_F g (va_A [(h0, .inr (23, [v0, .ref h1, .int 20, .int 60, .ref (g 34), v1, .int 0, .int 0, .int 0])), (h1, .inr (6, [.int 0, v2, .int 0]))] sz) U U.heap)) (va_Qi (fun (r : Int32) (_ : Unit) => r = 0) (fun _ t => ∃ k0 : Nat, ∃ k1 : Nat, ∃ kc2 : ClassId, va_P (dC, dI) vwCl [(h0, .inr (23, [.int 0, .ref h1, .int 20, .int 60, .ref (g 34), v1, .int 0, .int 0, .int 0])), (k0, .inr (5, [.int 0, .int (-1), .int 0, .ref h1])), (k1, .inl (kc2, 8, .inl (upd (upd (upd (upd (upd (upd (upd (upd (fun _ => 0) 0 0) 1 20) 2 60) 3 0) 4 0) 5 0) 6 0) 7 0))), (h1, .inr (6, [.int 0, v2, .int 0]))] t.heap ∧ va_K (dC, dI) vwCl [(kc2, .int)] t ∧ va_D (va_A [(h0, .inr (23, [v0, .ref h1, .int 20, .int 60, .ref (g 34), v1, .int 0, .int 0, .int 0])), (h1, .inr (6, [.int 0, v2, .int 0]))] sz) [(h0, .inr (23, [.int 0, .ref h1, .int 20, .int 60, .ref (g 34), v1, .int 0, .int 0, .int 0])), (k0, .inr (5, [.int 0, .int (-1), .int 0, .ref h1])), (k1, .inl (kc2, 8, .inl (upd (upd (upd (upd (upd (upd (upd (upd (fun _ => 0) 0 0) 1 20) 2 60) 3 0) 4 0) 5 0) 6 0) 7 0))), (h1, .inr (6, [.int 0, v2, .int 0]))]) (va_A [(h0, .inr (23, [v0, .ref h1, .int 20, .int 60, .ref (g 34), v1, .int 0, .int 0, .int 0])), (h1, .inr (6, [.int 0, v2, .int 0]))] sz)) 2 12 (va_A [(h0, .inr (23, [v0, .ref h1, .int 20, .int 60, .ref (g 34), v1, .int 0, .int 0, .int 0])), (h1, .inr (6, [.int 0, v2, .int 0]))] sz) := by
  refine Met.ofW (cc := cX16_house) (maxL := 2) (ret := (some .int)) (by decide) rfl ?_
  intro p e s m args below meth c s₁ B hml hv
  obtain ⟨rfl, hsz, hP, hK, hD0, hF⟩ := hv
  have hx := B.exec
  have hb := B.bytes
  have hr := B.returns
  have hts := atoms_spec (ws := wsX16_house) B.pre
  have hown : s.vm.findClass RX16 = some m.cls := findClass_of_methodNamed B.named
  have hlocks := B.notSynchronized
  subst hsz
  have hD := hD0.self (sz := s.heap.size)
  generalize hAe : va_A [(h0, .inr (23, [v0, .ref h1, .int 20, .int 60, .ref (g 34), v1, .int 0, .int 0, .int 0])), (h1, .inr (6, [.int 0, v2, .int 0]))] s.heap.size = A at hD hF ⊢
  have hA : ∀ q : Nat, s.heap.size ≤ q → A q := fun q h => by rw [← hAe]; exact Or.inr h
  have hS : va_S A s.heap s.heap [] := va_S.rf
  have hP : va_P (dC, dI) vwCl [(h0, .inr (23, [v0, .ref h1, .int 20, .int 60, .ref (g 34), v1, .int 0, .int 0, .int 0])), (h1, .inr (6, [.int 0, v2, .int 0]))] s.heap := hP
  have hl := lv_entry ([.ref h0, .int 0]) (n := 2) (Nat.le_of_ble_eq_true rfl)
  rw [lg_entry_eq]
  generalize (lg_sl ([.ref h0, .int 0]) ++ List.replicate (2 - (lg_sl ([.ref h0, .int 0])).length) Slot.unset).toArray = ls at hl ⊢
  have hl : lv_has ls 2 [(0, .ref h0), (1, .int 0)] := hl
  refine lv_aload_n hx hb dX16_house_0 rfl (lv_at hl 0 rfl) ?_
  refine lv_iload_n hx hb dX16_house_1 rfl (lv_at hl 1 rfl) ?_
  refine lv_iconst (v := 0) hx hb dX16_house_2 (by decide) ?_
  refine lv_bipush (v := 7) hx hb dX16_house_3 (by decide) ?_
  have hPc := hP.sub (ws' := []) [] rfl
  have hDc := hD.sub (ws' := []) [] (by decide) rfl
  have hKc := hK.sub (tys' := []) [] rfl
  have hFc := va_free (wc := []) hD hS hA [] rfl
  refine va_calli (va_runS (As := [.int 0, .int 0, .int 7]) (rest := [.ref h0]) ⟨hx, hb, hml, hown, hts⟩ (kX16_isIn_16 l dC dI g s.heap.size  ) (va_cwS 3 hts gX16_house_X16_isIn rfl rfl rfl (by decide +kernel) ⟨Nat.le_of_ble_eq_true rfl, Nat.le_of_ble_eq_true rfl⟩) ⟨fun a U gg mk q => by obtain ⟨q0, q1, qP, qK, qD, qF⟩ := q; exact ⟨q0, q1, qP, va_K.moved (u := U) (U := U.calling gg mk a) (Vm.Alike.refl U.vm) qK, qD, ns_same qF⟩, fun U hU hW => ⟨rfl, by rw [hU], by rw [hU]; exact hPc, va_K.moved hW.alike hKc, hDc.weaken (fun _ _ _ _ => trivial), ns_call hF hS hFc hU hW⟩⟩ rfl rfl hl.1 rfl (lv_room (Nat.le_of_ble_eq_true rfl)) dX16_house_5 ⟨Nat.le_of_ble_eq_true rfl, Nat.le_of_ble_eq_true rfl⟩) hS (fun q _ h => hFc q h) hFc (fun r9 u t H1 locs ht hvm hw hB hz1 hk1 hS => ?_)
  obtain rfl := hw
  obtain ⟨hP1, hK1, hD1⟩ := hB
  rw [ht] at hP1
  have hK1 := va_K.moved hvm.symm hK1
  obtain ⟨hP, hD⟩ := va_join (wr := [(h0, .inr (23, [v0, .ref h1, .int 20, .int 60, .ref (g 34), v1, .int 0, .int 0, .int 0])), (h1, .inr (6, [.int 0, v2, .int 0]))]) (w1 := []) hP hD [] [0, 1] rfl rfl (by decide) (by decide) hk1 hFc hP1 hD1
  have hK := (hK.sub (tys' := []) [] rfl).app hK1
  generalize H1 = H at hP hS ⊢
  have hP : va_P (dC, dI) vwCl [(h0, .inr (23, [v0, .ref h1, .int 20, .int 60, .ref (g 34), v1, .int 0, .int 0, .int 0])), (h1, .inr (6, [.int 0, v2, .int 0]))] H := hP
  have hD : va_D A [(h0, .inr (23, [v0, .ref h1, .int 20, .int 60, .ref (g 34), v1, .int 0, .int 0, .int 0])), (h1, .inr (6, [.int 0, v2, .int 0]))] := hD
  have hK : va_K (dC, dI) vwCl [] s := hK
  refine W.widen (k := 0) (n := 0) (Nat.le_of_ble_eq_true rfl) (Nat.le_of_ble_eq_true rfl) ?_
  refine lv_if_ne (tgt := 15) hx hb dX16_house_8 (by decide) (fun c1 => ?_) (fun c1 => absurd c1 (by decide))
  refine lv_iconst (v := 0) hx hb dX16_house_15 (by decide) ?_
  refine lv_iconst (v := 1) hx hb dX16_house_16 (by decide) ?_
  have hPc := hP.sub (ws' := [(h0, .inr (23, [v0, .ref h1, .int 20, .int 60, .ref (g 34), v1, .int 0, .int 0, .int 0]))]) [0] rfl
  have hDc := hD.sub (ws' := [(h0, .inr (23, [v0, .ref h1, .int 20, .int 60, .ref (g 34), v1, .int 0, .int 0, .int 0]))]) [0] (by decide) rfl
  have hKc := hK.sub (tys' := []) [] rfl
  have hFc := va_free (wc := [(h0, .inr (23, [v0, .ref h1, .int 20, .int 60, .ref (g 34), v1, .int 0, .int 0, .int 0]))]) hD hS hA [0] rfl
  refine va_calli (va_runV (As := [.int 0, .int 1]) (rest := []) ⟨hx, hb, hml, hown, hts⟩ (kX16_start_2 l dC dI g H.size h0 v0 (.ref h1) (.int 20) (.int 60) (.ref (g 34)) v1 (.int 0) (.int 0) (.int 0) ) (cwV 2 hts gX16_house_X16_start rfl rfl rfl (by decide +kernel) ⟨Nat.le_of_ble_eq_true rfl, Nat.le_of_ble_eq_true rfl⟩) ⟨fun a U gg mk q => by obtain ⟨q0, q1, qP, qK, qD, qF⟩ := q; exact ⟨q0, q1, qP, va_K.moved (u := U) (U := U.calling gg mk a) (Vm.Alike.refl U.vm) qK, qD, ns_same qF⟩, va_recv hK hP (ci := 23) (q0 := 0) rfl rfl, fun U hU hW => ⟨rfl, by rw [hU], by rw [hU]; exact hPc, va_K.moved hW.alike hKc, hDc.weaken (fun _ _ _ _ => trivial), ns_call hF hS hFc hU hW⟩⟩ rfl rfl hl.1 rfl (lv_room (Nat.le_of_ble_eq_true rfl)) dX16_house_17 ⟨Nat.le_of_ble_eq_true rfl, Nat.le_of_ble_eq_true rfl⟩) hS (fun q _ h => hFc q h) hFc (fun r9 u t H1 locs ht hvm hw hB hz1 hk1 hS => ?_)
  obtain rfl := hw
  obtain ⟨hP1, hK1, hD1⟩ := hB
  rw [ht] at hP1
  have hK1 := va_K.moved hvm.symm hK1
  obtain ⟨hP, hD⟩ := va_join (wr := [(h1, .inr (6, [.int 0, v2, .int 0]))]) (w1 := [(h0, .inr (23, [.int 0, .ref h1, .int 20, .int 60, .ref (g 34), v1, .int 0, .int 0, .int 0]))]) hP hD [0] [1] rfl rfl (by decide) (by decide) hk1 hFc hP1 hD1
  have hK := (hK.sub (tys' := []) [] rfl).app hK1
  generalize H1 = H at hP hS ⊢
  have hP : va_P (dC, dI) vwCl [(h1, .inr (6, [.int 0, v2, .int 0])), (h0, .inr (23, [.int 0, .ref h1, .int 20, .int 60, .ref (g 34), v1, .int 0, .int 0, .int 0]))] H := hP
  have hD : va_D A [(h1, .inr (6, [.int 0, v2, .int 0])), (h0, .inr (23, [.int 0, .ref h1, .int 20, .int 60, .ref (g 34), v1, .int 0, .int 0, .int 0]))] := hD
  have hK : va_K (dC, dI) vwCl [] s := hK
  refine W.widen (k := 0) (n := 0) (Nat.le_of_ble_eq_true rfl) (Nat.le_of_ble_eq_true rfl) ?_
  refine lv_if_eq (tgt := 27) hx hb dX16_house_20 (by decide) (fun c2 => ?_) (fun c2 => absurd (by decide) c2)
  refine lv_aload_n hx hb dX16_house_27 rfl (lv_at hl 0 rfl) ?_
  refine lv_iload_n hx hb dX16_house_28 rfl (lv_at hl 1 rfl) ?_
  have hPc := hP.sub (ws' := [(h0, .inr (23, [.int 0, .ref h1, .int 20, .int 60, .ref (g 34), v1, .int 0, .int 0, .int 0])), (h1, .inr (6, [.int 0, v2, .int 0]))]) [1, 0] rfl
  have hDc := hD.sub (ws' := [(h0, .inr (23, [.int 0, .ref h1, .int 20, .int 60, .ref (g 34), v1, .int 0, .int 0, .int 0])), (h1, .inr (6, [.int 0, v2, .int 0]))]) [1, 0] (by decide) rfl
  have hKc := hK.sub (tys' := []) [] rfl
  have hFc := va_free (wc := [(h0, .inr (23, [.int 0, .ref h1, .int 20, .int 60, .ref (g 34), v1, .int 0, .int 0, .int 0])), (h1, .inr (6, [.int 0, v2, .int 0]))]) hD hS hA [1, 0] rfl
  refine va_calli (va_runV (As := [.int 0]) (rest := []) ⟨hx, hb, hml, hown, hts⟩ (kX16_houseTold l dC dI g H.size h0 h1 (.int 0) v1 v2 ) (cwV 1 hts gX16_house_X16_houseTold rfl rfl rfl (by decide +kernel) ⟨Nat.le_of_ble_eq_true rfl, Nat.le_of_ble_eq_true rfl⟩) ⟨fun a U gg mk q => by obtain ⟨q0, q1, qP, qK, qD, qF⟩ := q; exact ⟨q0, q1, qP, va_K.moved (u := U) (U := U.calling gg mk a) (Vm.Alike.refl U.vm) qK, qD, ns_same qF⟩, va_recv hK hP (ci := 23) (q0 := 1) rfl rfl, fun U hU hW => ⟨rfl, by rw [hU], by rw [hU]; exact hPc, va_K.moved hW.alike hKc, hDc.weaken (fun _ _ _ _ => trivial), ns_call hF hS hFc hU hW⟩⟩ rfl rfl hl.1 rfl (lv_room (Nat.le_of_ble_eq_true rfl)) dX16_house_29 ⟨Nat.le_of_ble_eq_true rfl, Nat.le_of_ble_eq_true rfl⟩) hS (fun q _ h => hFc q h) hFc (fun r9 u t H1 locs ht hvm hw hB hz1 hk1 hS => ?_)
  obtain rfl := hw
  obtain ⟨q3, q4, cy5, hP1, hK1, hD1⟩ := hB
  rw [ht] at hP1
  have hK1 := va_K.moved hvm.symm hK1
  obtain ⟨hP, hD⟩ := va_join (wr := []) (w1 := [(h0, .inr (23, [.int 0, .ref h1, .int 20, .int 60, .ref (g 34), v1, .int 0, .int 0, .int 0])), (q3, .inr (5, [.int 0, .int (-1), .int 0, .ref h1])), (q4, .inl (cy5, 8, .inl (upd (upd (upd (upd (upd (upd (upd (upd (fun _ => 0) 0 0) 1 20) 2 60) 3 0) 4 0) 5 0) 6 0) 7 0))), (h1, .inr (6, [.int 0, v2, .int 0]))]) hP hD [1, 0] [] rfl rfl (by decide) (by decide) hk1 hFc hP1 hD1
  have hK := (hK.sub (tys' := []) [] rfl).app hK1
  generalize H1 = H at hP hS ⊢
  have hP : va_P (dC, dI) vwCl [(h0, .inr (23, [.int 0, .ref h1, .int 20, .int 60, .ref (g 34), v1, .int 0, .int 0, .int 0])), (q3, .inr (5, [.int 0, .int (-1), .int 0, .ref h1])), (q4, .inl (cy5, 8, .inl (upd (upd (upd (upd (upd (upd (upd (upd (fun _ => 0) 0 0) 1 20) 2 60) 3 0) 4 0) 5 0) 6 0) 7 0))), (h1, .inr (6, [.int 0, v2, .int 0]))] H := hP
  have hD : va_D A [(h0, .inr (23, [.int 0, .ref h1, .int 20, .int 60, .ref (g 34), v1, .int 0, .int 0, .int 0])), (q3, .inr (5, [.int 0, .int (-1), .int 0, .ref h1])), (q4, .inl (cy5, 8, .inl (upd (upd (upd (upd (upd (upd (upd (upd (fun _ => 0) 0 0) 1 20) 2 60) 3 0) 4 0) 5 0) 6 0) 7 0))), (h1, .inr (6, [.int 0, v2, .int 0]))] := hD
  have hK : va_K (dC, dI) vwCl [(cy5, .int)] s := hK
  refine W.widen (k := 2) (n := 12) (Nat.le_of_ble_eq_true rfl) (Nat.le_of_ble_eq_true rfl) ?_
  have hP9 := hP.sub (ws' := [(h0, .inr (23, [.int 0, .ref h1, .int 20, .int 60, .ref (g 34), v1, .int 0, .int 0, .int 0])), (q3, .inr (5, [.int 0, .int (-1), .int 0, .ref h1])), (q4, .inl (cy5, 8, .inl (upd (upd (upd (upd (upd (upd (upd (upd (fun _ => 0) 0 0) 1 20) 2 60) 3 0) 4 0) 5 0) 6 0) 7 0))), (h1, .inr (6, [.int 0, v2, .int 0]))]) [0, 1, 2, 3] rfl
  have hD9 := hD.sub (ws' := [(h0, .inr (23, [.int 0, .ref h1, .int 20, .int 60, .ref (g 34), v1, .int 0, .int 0, .int 0])), (q3, .inr (5, [.int 0, .int (-1), .int 0, .ref h1])), (q4, .inl (cy5, 8, .inl (upd (upd (upd (upd (upd (upd (upd (upd (fun _ => 0) 0 0) 1 20) 2 60) 3 0) 4 0) 5 0) 6 0) 7 0))), (h1, .inr (6, [.int 0, v2, .int 0]))]) [0, 1, 2, 3] (by decide) rfl
  have hK9 := hK.sub (tys' := [(cy5, .int)]) [0] rfl
  refine W.widen (k := 2) (n := 12) (Nat.le_of_ble_eq_true rfl) (Nat.le_of_ble_eq_true rfl) ?_
  exact W.iret (v := 0) hx hb hr (fun t ht hW => ⟨⟨_, (), rfl, rfl, q3, q4, cy5, by rw [ht]; exact hP9, va_K.moved hW.alike hK9, hD9⟩, hS.F ht⟩) hS.2.2 dX16_house_32
set_option maxHeartbeats 4000000 in
set_option maxRecDepth 100000 in
theorem kX9_stateOf_2 (l : Launch) (dC : Nat → ClassId) (dI : Nat → Nat → Nat) (g : Nat → Nat) (sz : Nat) (h0 : Nat) (v0 : Value) (v1 : Value) (v2 : Value) (v3 : Value) (v4 : Value) (v5 : Value) (v6 : Value) (v7 : Value) (v8 : Value) (v9 : Value) (v10 : Value) (v11 : Value) (v12 : Value) (v13 : Value) (v14 : Value) : Met l yX9_stateOf wsX9_stateOf ({ frames := 0, cells := 0, slots := 0, locals := 0 }) (va_Pc [.ref h0, .int 1] (fun U => U.heap.size = sz ∧ va_P (dC, dI) vwCl [(h0, .inr (16, [v0, v1, v2, v3, v4, v5, v6, v7, v8, v9, v10, .int 20, v11, v12, v13, v14]))] U.heap ∧ va_K (dC, dI) vwCl [] U ∧ va_D (fun _ => True) [(h0, .inr (16, [v0, v1, v2, v3, v4, v5, v6, v7, v8, v9, v10, .int 20, v11, v12, v13, v14]))] ∧ ns_F g (va_A [(h0, .inr (16, [v0, v1, v2, v3, v4, v5, v6, v7, v8, v9, v10, .int 20, v11, v12, v13, v14]))] sz) U U.heap)) (va_Qi (fun (r : Int32) (_ : Unit) => r = 20) (fun _ t => va_P (dC, dI) vwCl [(h0, .inr (16, [v0, v1, v2, v3, v4, v5, v6, v7, v8, v9, v10, .int 20, v11, v12, v13, v14]))] t.heap ∧ va_K (dC, dI) vwCl [] t ∧ va_D (va_A [(h0, .inr (16, [v0, v1, v2, v3, v4, v5, v6, v7, v8, v9, v10, .int 20, v11, v12, v13, v14]))] sz) [(h0, .inr (16, [v0, v1, v2, v3, v4, v5, v6, v7, v8, v9, v10, .int 20, v11, v12, v13, v14]))]) (va_A [(h0, .inr (16, [v0, v1, v2, v3, v4, v5, v6, v7, v8, v9, v10, .int 20, v11, v12, v13, v14]))] sz)) 0 0 (va_A [(h0, .inr (16, [v0, v1, v2, v3, v4, v5, v6, v7, v8, v9, v10, .int 20, v11, v12, v13, v14]))] sz) := by
  refine Met.ofW (cc := cX9_stateOf) (maxL := 2) (ret := (some .int)) (by decide) rfl ?_
  intro p e s m args below meth c s₁ B hml hv
  obtain ⟨rfl, hsz, hP, hK, hD0, hF⟩ := hv
  have hx := B.exec
  have hb := B.bytes
  have hr := B.returns
  have hts := atoms_spec (ws := wsX9_stateOf) B.pre
  have hown : s.vm.findClass RX9 = some m.cls := findClass_of_methodNamed B.named
  have hlocks := B.notSynchronized
  subst hsz
  have hD := hD0.self (sz := s.heap.size)
  generalize hAe : va_A [(h0, .inr (16, [v0, v1, v2, v3, v4, v5, v6, v7, v8, v9, v10, .int 20, v11, v12, v13, v14]))] s.heap.size = A at hD hF ⊢
  have hA : ∀ q : Nat, s.heap.size ≤ q → A q := fun q h => by rw [← hAe]; exact Or.inr h
  have hS : va_S A s.heap s.heap [] := va_S.rf
  have hP : va_P (dC, dI) vwCl [(h0, .inr (16, [v0, v1, v2, v3, v4, v5, v6, v7, v8, v9, v10, .int 20, v11, v12, v13, v14]))] s.heap := hP
  have hl := lv_entry ([.ref h0, .int 1]) (n := 2) (Nat.le_of_ble_eq_true rfl)
  rw [lg_entry_eq]
  generalize (lg_sl ([.ref h0, .int 1]) ++ List.replicate (2 - (lg_sl ([.ref h0, .int 1])).length) Slot.unset).toArray = ls at hl ⊢
  have hl : lv_has ls 2 [(0, .ref h0), (1, .int 1)] := hl
  refine lv_iload_n hx hb dX9_stateOf_0 rfl (lv_at hl 1 rfl) ?_
  refine lv_tableIn (off := 51) (tgt := 52) hx hb dX9_stateOf_1 (by decide) (by decide) (by decide) (by decide) ?_
  refine lv_aload_n hx hb dX9_stateOf_52 rfl (lv_at hl 0 rfl) ?_
  refine va_get (D := (dC, dI)) (ci := 16) (v := .int 20) (C := RX9) (T := TX9) (N := 16) hx hb hts (by decide +kernel) hown hK hP 0 rfl rfl 11 (by decide) (hts (.fieldLink RX9 84 "Nestprint" "width" "I") (by decide +kernel)) (fun _ h9 => h9) rfl dX9_stateOf_53 ?_
  have hP9 := hP.sub (ws' := [(h0, .inr (16, [v0, v1, v2, v3, v4, v5, v6, v7, v8, v9, v10, .int 20, v11, v12, v13, v14]))]) [0] rfl
  have hD9 := hD.sub (ws' := [(h0, .inr (16, [v0, v1, v2, v3, v4, v5, v6, v7, v8, v9, v10, .int 20, v11, v12, v13, v14]))]) [0] (by decide) rfl
  have hK9 := hK.sub (tys' := []) [] rfl
  refine W.widen (k := 0) (n := 0) (Nat.le_of_ble_eq_true rfl) (Nat.le_of_ble_eq_true rfl) ?_
  exact W.iret (v := 20) hx hb hr (fun t ht hW => ⟨⟨_, (), rfl, rfl, by rw [ht]; exact hP9, va_K.moved hW.alike hK9, hD9⟩, hS.F ht⟩) hS.2.2 dX9_stateOf_56
set_option maxHeartbeats 4000000 in
set_option maxRecDepth 100000 in
theorem kX9_house_3 (l : Launch) (dC : Nat → ClassId) (dI : Nat → Nat → Nat) (g : Nat → Nat) (sz : Nat) (h0 : Nat) (v0 : Value) (v1 : Value) (v2 : Value) (v3 : Value) (v4 : Value) (v5 : Value) (v6 : Value) (v7 : Value) (v8 : Value) (v9 : Value) (v10 : Value) (v11 : Value) (v12 : Value) (v13 : Value) (v14 : Value) : Met l yX9_house wsX9_house ({ frames := 1, cells := 0, slots := 0, locals := 21 }) (va_Pc [.ref h0, .int 1] (fun U => U.heap.size = sz ∧ va_P (dC, dI) vwCl [(h0, .inr (16, [v0, v1, v2, v3, v4, v5, v6, v7, v8, v9, v10, .int 20, v11, v12, v13, v14]))] U.heap ∧ va_K (dC, dI) vwCl [] U ∧ va_D (fun _ => True) [(h0, .inr (16, [v0, v1, v2, v3, v4, v5, v6, v7, v8, v9, v10, .int 20, v11, v12, v13, v14]))] ∧ ns_F g (va_A [(h0, .inr (16, [v0, v1, v2, v3, v4, v5, v6, v7, v8, v9, v10, .int 20, v11, v12, v13, v14]))] sz) U U.heap)) (va_Qi (fun (r : Int32) (_ : Unit) => r = 20) (fun _ t => va_P (dC, dI) vwCl [(h0, .inr (16, [v0, v1, v2, v3, v4, v5, v6, v7, v8, v9, v10, .int 20, v11, v12, v13, v14]))] t.heap ∧ va_K (dC, dI) vwCl [] t ∧ va_D (va_A [(h0, .inr (16, [v0, v1, v2, v3, v4, v5, v6, v7, v8, v9, v10, .int 20, v11, v12, v13, v14]))] sz) [(h0, .inr (16, [v0, v1, v2, v3, v4, v5, v6, v7, v8, v9, v10, .int 20, v11, v12, v13, v14]))]) (va_A [(h0, .inr (16, [v0, v1, v2, v3, v4, v5, v6, v7, v8, v9, v10, .int 20, v11, v12, v13, v14]))] sz)) 0 0 (va_A [(h0, .inr (16, [v0, v1, v2, v3, v4, v5, v6, v7, v8, v9, v10, .int 20, v11, v12, v13, v14]))] sz) := by
  refine Met.ofW (cc := cX9_house) (maxL := 2) (ret := (some .int)) (by decide) rfl ?_
  intro p e s m args below meth c s₁ B hml hv
  obtain ⟨rfl, hsz, hP, hK, hD0, hF⟩ := hv
  have hx := B.exec
  have hb := B.bytes
  have hr := B.returns
  have hts := atoms_spec (ws := wsX9_house) B.pre
  have hown : s.vm.findClass RX9 = some m.cls := findClass_of_methodNamed B.named
  have hlocks := B.notSynchronized
  subst hsz
  have hD := hD0.self (sz := s.heap.size)
  generalize hAe : va_A [(h0, .inr (16, [v0, v1, v2, v3, v4, v5, v6, v7, v8, v9, v10, .int 20, v11, v12, v13, v14]))] s.heap.size = A at hD hF ⊢
  have hA : ∀ q : Nat, s.heap.size ≤ q → A q := fun q h => by rw [← hAe]; exact Or.inr h
  have hS : va_S A s.heap s.heap [] := va_S.rf
  have hP : va_P (dC, dI) vwCl [(h0, .inr (16, [v0, v1, v2, v3, v4, v5, v6, v7, v8, v9, v10, .int 20, v11, v12, v13, v14]))] s.heap := hP
  have hl := lv_entry ([.ref h0, .int 1]) (n := 2) (Nat.le_of_ble_eq_true rfl)
  rw [lg_entry_eq]
  generalize (lg_sl ([.ref h0, .int 1]) ++ List.replicate (2 - (lg_sl ([.ref h0, .int 1])).length) Slot.unset).toArray = ls at hl ⊢
  have hl : lv_has ls 2 [(0, .ref h0), (1, .int 1)] := hl
  refine lv_iload_n hx hb dX9_house_0 rfl (lv_at hl 1 rfl) ?_
  refine lv_if_lt (tgt := 10) hx hb dX9_house_1 (by decide) (fun c1 => absurd c1 (by decide)) (fun c1 => ?_)
  refine lv_iload_n hx hb dX9_house_4 rfl (lv_at hl 1 rfl) ?_
  refine lv_bipush (v := 7) hx hb dX9_house_5 (by decide) ?_
  refine lv_icmp_le (tgt := 20) hx hb dX9_house_7 (by decide) (fun c2 => ?_) (fun c2 => absurd (by decide) c2)
  refine lv_aload_n hx hb dX9_house_20 rfl (lv_at hl 0 rfl) ?_
  refine lv_iload_n hx hb dX9_house_21 rfl (lv_at hl 1 rfl) ?_
  have hPc := hP.sub (ws' := [(h0, .inr (16, [v0, v1, v2, v3, v4, v5, v6, v7, v8, v9, v10, .int 20, v11, v12, v13, v14]))]) [0] rfl
  have hDc := hD.sub (ws' := [(h0, .inr (16, [v0, v1, v2, v3, v4, v5, v6, v7, v8, v9, v10, .int 20, v11, v12, v13, v14]))]) [0] (by decide) rfl
  have hKc := hK.sub (tys' := []) [] rfl
  have hFc := va_free (wc := [(h0, .inr (16, [v0, v1, v2, v3, v4, v5, v6, v7, v8, v9, v10, .int 20, v11, v12, v13, v14]))]) hD hS hA [0] rfl
  refine va_calli (va_runV (As := [.int 1]) (rest := []) ⟨hx, hb, hml, hown, hts⟩ (kX9_stateOf_2 l dC dI g s.heap.size h0 v0 v1 v2 v3 v4 v5 v6 v7 v8 v9 v10 v11 v12 v13 v14 ) (cwV 1 hts gX9_house_X9_stateOf rfl rfl rfl (by decide +kernel) ⟨Nat.le_of_ble_eq_true rfl, Nat.le_of_ble_eq_true rfl⟩) ⟨fun a U gg mk q => by obtain ⟨q0, q1, qP, qK, qD, qF⟩ := q; exact ⟨q0, q1, qP, va_K.moved (u := U) (U := U.calling gg mk a) (Vm.Alike.refl U.vm) qK, qD, ns_same qF⟩, va_recv hK hP (ci := 16) (q0 := 0) rfl rfl, fun U hU hW => ⟨rfl, by rw [hU], by rw [hU]; exact hPc, va_K.moved hW.alike hKc, hDc.weaken (fun _ _ _ _ => trivial), ns_call hF hS hFc hU hW⟩⟩ rfl rfl hl.1 rfl (lv_room (Nat.le_of_ble_eq_true rfl)) dX9_house_22 ⟨Nat.le_of_ble_eq_true rfl, Nat.le_of_ble_eq_true rfl⟩) hS (fun q _ h => hFc q h) hFc (fun r9 u t H1 locs ht hvm hw hB hz1 hk1 hS => ?_)
  obtain rfl := hw
  obtain ⟨hP1, hK1, hD1⟩ := hB
  rw [ht] at hP1
  have hK1 := va_K.moved hvm.symm hK1
  obtain ⟨hP, hD⟩ := va_join (wr := []) (w1 := [(h0, .inr (16, [v0, v1, v2, v3, v4, v5, v6, v7, v8, v9, v10, .int 20, v11, v12, v13, v14]))]) hP hD [0] [] rfl rfl (by decide) (by decide) hk1 hFc hP1 hD1
  have hK := (hK.sub (tys' := []) [] rfl).app hK1
  generalize H1 = H at hP hS ⊢
  have hP : va_P (dC, dI) vwCl [(h0, .inr (16, [v0, v1, v2, v3, v4, v5, v6, v7, v8, v9, v10, .int 20, v11, v12, v13, v14]))] H := hP
  have hD : va_D A [(h0, .inr (16, [v0, v1, v2, v3, v4, v5, v6, v7, v8, v9, v10, .int 20, v11, v12, v13, v14]))] := hD
  have hK : va_K (dC, dI) vwCl [] s := hK
  refine W.widen (k := 0) (n := 0) (Nat.le_of_ble_eq_true rfl) (Nat.le_of_ble_eq_true rfl) ?_
  have hP9 := hP.sub (ws' := [(h0, .inr (16, [v0, v1, v2, v3, v4, v5, v6, v7, v8, v9, v10, .int 20, v11, v12, v13, v14]))]) [0] rfl
  have hD9 := hD.sub (ws' := [(h0, .inr (16, [v0, v1, v2, v3, v4, v5, v6, v7, v8, v9, v10, .int 20, v11, v12, v13, v14]))]) [0] (by decide) rfl
  have hK9 := hK.sub (tys' := []) [] rfl
  refine W.widen (k := 0) (n := 0) (Nat.le_of_ble_eq_true rfl) (Nat.le_of_ble_eq_true rfl) ?_
  exact W.iret (v := 20) hx hb hr (fun t ht hW => ⟨⟨_, (), rfl, rfl, by rw [ht]; exact hP9, va_K.moved hW.alike hK9, hD9⟩, hS.F ht⟩) hS.2.2 dX9_house_25
set_option maxHeartbeats 4000000 in
set_option maxRecDepth 100000 in
theorem kL_house_3 (l : Launch) (dC : Nat → ClassId) (dI : Nat → Nat → Nat) (g : Nat → Nat) (sz : Nat) (h0 : Nat) (h1 : Nat) (v0 : Value) (v1 : Value) (v2 : Value) (v3 : Value) (v4 : Value) (v5 : Value) (v6 : Value) (v7 : Value) (v8 : Value) (v9 : Value) (v10 : Value) (v11 : Value) (v12 : Value) (v13 : Value) (v14 : Value) (v15 : Value) (v16 : Value) : Met l yL_house wsL_house ({ frames := 2, cells := 0, slots := 0, locals := 42 }) (va_Pc [.ref h0, .int 1, .ref h1] (fun U => U.heap.size = sz ∧ va_P (dC, dI) vwCl [(h0, .inr (16, [v0, v1, v2, v3, v4, v5, v6, v7, v8, v9, v10, .int 20, v11, v12, v13, v14])), (h1, .inr (17, [v15, v16]))] U.heap ∧ va_K (dC, dI) vwCl [] U ∧ va_D (fun _ => True) [(h0, .inr (16, [v0, v1, v2, v3, v4, v5, v6, v7, v8, v9, v10, .int 20, v11, v12, v13, v14])), (h1, .inr (17, [v15, v16]))] ∧ ns_F g (va_A [(h0, .inr (16, [v0, v1, v2, v3, v4, v5, v6, v7, v8, v9, v10, .int 20, v11, v12, v13, v14])), (h1, .inr (17, [v15, v16]))] sz) U U.heap)) (va_Qi (fun (r : Int32) (_ : Unit) => r = 0) (fun _ t => va_P (dC, dI) vwCl [(h1, .inr (17, [.long 20, v16])), (h0, .inr (16, [v0, v1, v2, v3, v4, v5, v6, v7, v8, v9, v10, .int 20, v11, v12, v13, v14]))] t.heap ∧ va_K (dC, dI) vwCl [] t ∧ va_D (va_A [(h0, .inr (16, [v0, v1, v2, v3, v4, v5, v6, v7, v8, v9, v10, .int 20, v11, v12, v13, v14])), (h1, .inr (17, [v15, v16]))] sz) [(h1, .inr (17, [.long 20, v16])), (h0, .inr (16, [v0, v1, v2, v3, v4, v5, v6, v7, v8, v9, v10, .int 20, v11, v12, v13, v14]))]) (va_A [(h0, .inr (16, [v0, v1, v2, v3, v4, v5, v6, v7, v8, v9, v10, .int 20, v11, v12, v13, v14])), (h1, .inr (17, [v15, v16]))] sz)) 0 0 (va_A [(h0, .inr (16, [v0, v1, v2, v3, v4, v5, v6, v7, v8, v9, v10, .int 20, v11, v12, v13, v14])), (h1, .inr (17, [v15, v16]))] sz) := by
  refine va_MetW (cc := cL_house) (maxL := 4) (ret := (some .int)) (hh := [(0, 10, 13, 19)]) (by decide) rfl ?_
  intro p e s m args below meth c s₁ B hml hv
  obtain ⟨rfl, hsz, hP, hK, hD0, hF⟩ := hv
  have hx := B.exec
  have hb := B.bytes
  have hr := B.returns
  have hts := atoms_spec (ws := wsL_house) B.pre
  have hown : s.vm.findClass RL = some m.cls := findClass_of_methodNamed B.named
  have hlocks := B.notSynchronized
  have htab : c.exceptionTable.toList = [⟨0, 10, 13, 19⟩] := vx_table B (hts _ List.mem_cons_self)
  subst hsz
  have hD := hD0.self (sz := s.heap.size)
  generalize hAe : va_A [(h0, .inr (16, [v0, v1, v2, v3, v4, v5, v6, v7, v8, v9, v10, .int 20, v11, v12, v13, v14])), (h1, .inr (17, [v15, v16]))] s.heap.size = A at hD hF ⊢
  have hA : ∀ q : Nat, s.heap.size ≤ q → A q := fun q h => by rw [← hAe]; exact Or.inr h
  have hS : va_S A s.heap s.heap [] := va_S.rf
  have hP : va_P (dC, dI) vwCl [(h0, .inr (16, [v0, v1, v2, v3, v4, v5, v6, v7, v8, v9, v10, .int 20, v11, v12, v13, v14])), (h1, .inr (17, [v15, v16]))] s.heap := hP
  have hl := lv_entry ([.ref h0, .int 1, .ref h1]) (n := 4) (Nat.le_of_ble_eq_true rfl)
  rw [lg_entry_eq]
  generalize (lg_sl ([.ref h0, .int 1, .ref h1]) ++ List.replicate (4 - (lg_sl ([.ref h0, .int 1, .ref h1])).length) Slot.unset).toArray = ls at hl ⊢
  have hl : lv_has ls 4 [(0, .ref h0), (1, .int 1), (2, .ref h1)] := hl
  refine lv_aload_n hx hb dL_house_0 rfl (lv_at hl 2 rfl) ?_
  refine lv_aload_n hx hb dL_house_1 rfl (lv_at hl 0 rfl) ?_
  refine lv_iload_n hx hb dL_house_2 rfl (lv_at hl 1 rfl) ?_
  have hPc := hP.sub (ws' := [(h0, .inr (16, [v0, v1, v2, v3, v4, v5, v6, v7, v8, v9, v10, .int 20, v11, v12, v13, v14]))]) [0] rfl
  have hDc := hD.sub (ws' := [(h0, .inr (16, [v0, v1, v2, v3, v4, v5, v6, v7, v8, v9, v10, .int 20, v11, v12, v13, v14]))]) [0] (by decide) rfl
  have hKc := hK.sub (tys' := []) [] rfl
  have hFc := va_free (wc := [(h0, .inr (16, [v0, v1, v2, v3, v4, v5, v6, v7, v8, v9, v10, .int 20, v11, v12, v13, v14]))]) hD hS hA [0] rfl
  refine va_calli (va_runV (As := [.int 1]) (rest := [.ref h1]) ⟨hx, hb, hml, hown, hts⟩ (kX9_house_3 l dC dI g s.heap.size h0 v0 v1 v2 v3 v4 v5 v6 v7 v8 v9 v10 v11 v12 v13 v14 ) (cwV 1 hts gL_house_X9_house rfl rfl rfl (by decide +kernel) ⟨Nat.le_of_ble_eq_true rfl, Nat.le_of_ble_eq_true rfl⟩) ⟨fun a U gg mk q => by obtain ⟨q0, q1, qP, qK, qD, qF⟩ := q; exact ⟨q0, q1, qP, va_K.moved (u := U) (U := U.calling gg mk a) (Vm.Alike.refl U.vm) qK, qD, ns_same qF⟩, va_recv hK hP (ci := 16) (q0 := 0) rfl rfl, fun U hU hW => ⟨rfl, by rw [hU], by rw [hU]; exact hPc, va_K.moved hW.alike hKc, hDc.weaken (fun _ _ _ _ => trivial), ns_call hF hS hFc hU hW⟩⟩ rfl rfl hl.1 rfl (lv_room (Nat.le_of_ble_eq_true rfl)) dL_house_3 ⟨Nat.le_of_ble_eq_true rfl, Nat.le_of_ble_eq_true rfl⟩) hS (fun q _ h => hFc q h) hFc (fun r9 u t H1 locs ht hvm hw hB hz1 hk1 hS => ?_)
  obtain rfl := hw
  obtain ⟨hP1, hK1, hD1⟩ := hB
  rw [ht] at hP1
  have hK1 := va_K.moved hvm.symm hK1
  obtain ⟨hP, hD⟩ := va_join (wr := [(h1, .inr (17, [v15, v16]))]) (w1 := [(h0, .inr (16, [v0, v1, v2, v3, v4, v5, v6, v7, v8, v9, v10, .int 20, v11, v12, v13, v14]))]) hP hD [0] [1] rfl rfl (by decide) (by decide) hk1 hFc hP1 hD1
  have hK := (hK.sub (tys' := []) [] rfl).app hK1
  generalize H1 = H at hP hS ⊢
  have hP : va_P (dC, dI) vwCl [(h1, .inr (17, [v15, v16])), (h0, .inr (16, [v0, v1, v2, v3, v4, v5, v6, v7, v8, v9, v10, .int 20, v11, v12, v13, v14]))] H := hP
  have hD : va_D A [(h1, .inr (17, [v15, v16])), (h0, .inr (16, [v0, v1, v2, v3, v4, v5, v6, v7, v8, v9, v10, .int 20, v11, v12, v13, v14]))] := hD
  have hK : va_K (dC, dI) vwCl [] s := hK
  refine W.widen (k := 0) (n := 0) (Nat.le_of_ble_eq_true rfl) (Nat.le_of_ble_eq_true rfl) ?_
  refine lv_i2l (v := 20) hx hb dL_house_6 (by decide) ?_
  refine va_putN (D := (dC, dI)) (ci := 17) (v := .long 20) (ty := .long) (C := RX10) (T := TX10) (N := 2) hx hb hts (by decide +kernel) tyX10 tyX10_ok nmX10 hown hK hP hD hS 0 rfl rfl 0 (by decide) (va_Nw.use rfl (ns_f7 hF)) (fun _ h9 => h9) rfl (by decide +kernel) rfl rfl (Nat.le_of_ble_eq_true rfl) dL_house_7 (fun H locs hP hD hS => ?_)
  have hP : va_P (dC, dI) vwCl [(h1, .inr (17, [.long 20, v16])), (h0, .inr (16, [v0, v1, v2, v3, v4, v5, v6, v7, v8, v9, v10, .int 20, v11, v12, v13, v14]))] H := hP
  have hD : va_D A [(h1, .inr (17, [.long 20, v16])), (h0, .inr (16, [v0, v1, v2, v3, v4, v5, v6, v7, v8, v9, v10, .int 20, v11, v12, v13, v14]))] := hD
  refine lv_goto (tgt := 16) hx hb dL_house_10 (by decide) ?_
  refine lv_iconst (v := 0) hx hb dL_house_16 (by decide) ?_
  have hP9 := hP.sub (ws' := [(h1, .inr (17, [.long 20, v16])), (h0, .inr (16, [v0, v1, v2, v3, v4, v5, v6, v7, v8, v9, v10, .int 20, v11, v12, v13, v14]))]) [0, 1] rfl
  have hD9 := hD.sub (ws' := [(h1, .inr (17, [.long 20, v16])), (h0, .inr (16, [v0, v1, v2, v3, v4, v5, v6, v7, v8, v9, v10, .int 20, v11, v12, v13, v14]))]) [0, 1] (by decide) rfl
  have hK9 := hK.sub (tys' := []) [] rfl
  refine W.widen (k := 0) (n := 0) (Nat.le_of_ble_eq_true rfl) (Nat.le_of_ble_eq_true rfl) ?_
  exact W.iret (v := 0) hx hb hr (fun t ht hW => ⟨⟨_, (), rfl, rfl, by rw [ht]; exact hP9, va_K.moved hW.alike hK9, hD9⟩, hS.F ht⟩) hS.2.2 dL_house_17
set_option maxHeartbeats 4000000 in
set_option maxRecDepth 100000 in
theorem kX16_isIn_17 (l : Launch) (dC : Nat → ClassId) (dI : Nat → Nat → Nat) (g : Nat → Nat) (sz : Nat)  : Met l yX16_isIn wsX16_isIn ({ frames := 0, cells := 0, slots := 0, locals := 0 }) (va_Pc [.int 1, .int 0, .int 7] (fun U => U.heap.size = sz ∧ va_P (dC, dI) vwCl [] U.heap ∧ va_K (dC, dI) vwCl [] U ∧ va_D (fun _ => True) [] ∧ ns_F g (va_A [] sz) U U.heap)) (va_Qi (fun (r : Int32) (_ : Unit) => r = 1) (fun _ t => va_P (dC, dI) vwCl [] t.heap ∧ va_K (dC, dI) vwCl [] t ∧ va_D (va_A [] sz) []) (va_A [] sz)) 0 0 (va_A [] sz) := by
  refine Met.ofW (cc := cX16_isIn) (maxL := 3) (ret := (some .boolean)) (by decide) rfl ?_
  intro p e s m args below meth c s₁ B hml hv
  obtain ⟨rfl, hsz, hP, hK, hD0, hF⟩ := hv
  have hx := B.exec
  have hb := B.bytes
  have hr := B.returns
  have hts := atoms_spec (ws := wsX16_isIn) B.pre
  have hown : s.vm.findClass RX16 = some m.cls := findClass_of_methodNamed B.named
  have hlocks := B.notSynchronized
  subst hsz
  have hD := hD0.self (sz := s.heap.size)
  generalize hAe : va_A [] s.heap.size = A at hD hF ⊢
  have hA : ∀ q : Nat, s.heap.size ≤ q → A q := fun q h => by rw [← hAe]; exact Or.inr h
  have hS : va_S A s.heap s.heap [] := va_S.rf
  have hP : va_P (dC, dI) vwCl [] s.heap := hP
  have hl := lv_entry ([.int 1, .int 0, .int 7]) (n := 3) (Nat.le_of_ble_eq_true rfl)
  rw [lg_entry_eq]
  generalize (lg_sl ([.int 1, .int 0, .int 7]) ++ List.replicate (3 - (lg_sl ([.int 1, .int 0, .int 7])).length) Slot.unset).toArray = ls at hl ⊢
  have hl : lv_has ls 3 [(0, .int 1), (1, .int 0), (2, .int 7)] := hl
  refine lv_iload_n hx hb dX16_isIn_0 rfl (lv_at hl 0 rfl) ?_
  refine lv_iload_n hx hb dX16_isIn_1 rfl (lv_at hl 1 rfl) ?_
  refine lv_icmp_lt (tgt := 14) hx hb dX16_isIn_2 (by decide) (fun c1 => absurd c1 (by decide)) (fun c1 => ?_)
  refine lv_iload_n hx hb dX16_isIn_5 rfl (lv_at hl 0 rfl) ?_
  refine lv_iload_n hx hb dX16_isIn_6 rfl (lv_at hl 2 rfl) ?_
  refine lv_icmp_gt (tgt := 14) hx hb dX16_isIn_7 (by decide) (fun c2 => absurd c2 (by decide)) (fun c2 => ?_)
  refine lv_iconst (v := 1) hx hb dX16_isIn_10 (by decide) ?_
  refine lv_goto (tgt := 15) hx hb dX16_isIn_11 (by decide) ?_
  have hP9 := hP.sub (ws' := []) [] rfl
  have hD9 := hD.sub (ws' := []) [] (by decide) rfl
  have hK9 := hK.sub (tys' := []) [] rfl
  refine W.widen (k := 0) (n := 0) (Nat.le_of_ble_eq_true rfl) (Nat.le_of_ble_eq_true rfl) ?_
  exact W.zret (v := 1) hx hb hr (by decide) (fun t ht hW => ⟨⟨_, (), rfl, rfl, by rw [ht]; exact hP9, va_K.moved hW.alike hK9, hD9⟩, hS.F ht⟩) hS.2.2 dX16_isIn_15
set_option maxHeartbeats 4000000 in
set_option maxRecDepth 100000 in
theorem kX16_houseTold_2 (l : Launch) (dC : Nat → ClassId) (dI : Nat → Nat → Nat) (g : Nat → Nat) (sz : Nat) (h0 : Nat) (h1 : Nat) (v0 : Value) (v1 : Value) (v2 : Value) : Met l yX16_houseTold wsX16_houseTold ({ frames := 3, cells := 2, slots := 12, locals := 53 }) (va_Pc [.ref h0, .int 1] (fun U => U.heap.size = sz ∧ va_P (dC, dI) vwCl [(h0, .inr (23, [v0, .ref h1, .int 20, .int 60, .ref (g 34), v1, .int 0, .int 0, .int 0])), (h1, .inr (6, [.int 0, v2, .int 0]))] U.heap ∧ va_K (dC, dI) vwCl [] U ∧ va_D (fun _ => True) [(h0, .inr (23, [v0, .ref h1, .int 20, .int 60, .ref (g 34), v1, .int 0, .int 0, .int 0])), (h1, .inr (6, [.int 0, v2, .int 0]))] ∧ ns_F g (va_A [(h0, .inr (23, [v0, .ref h1, .int 20, .int 60, .ref (g 34), v1, .int 0, .int 0, .int 0])), (h1, .inr (6, [.int 0, v2, .int 0]))] sz) U U.heap)) (va_Qi (fun (r : Int32) (_ : Unit) => r = 20) (fun _ t => ∃ k0 : Nat, ∃ k1 : Nat, ∃ kc2 : ClassId, va_P (dC, dI) vwCl [(h0, .inr (23, [v0, .ref h1, .int 20, .int 60, .ref (g 34), v1, .int 0, .int 0, .int 0])), (k0, .inr (5, [.int 0, .int (-1), .int 0, .ref h1])), (k1, .inl (kc2, 8, .inl (upd (upd (upd (upd (upd (upd (upd (upd (fun _ => 0) 0 0) 1 20) 2 60) 3 0) 4 0) 5 0) 6 0) 7 0))), (h1, .inr (6, [.int 0, v2, .int 0]))] t.heap ∧ va_K (dC, dI) vwCl [(kc2, .int)] t ∧ va_D (va_A [(h0, .inr (23, [v0, .ref h1, .int 20, .int 60, .ref (g 34), v1, .int 0, .int 0, .int 0])), (h1, .inr (6, [.int 0, v2, .int 0]))] sz) [(h0, .inr (23, [v0, .ref h1, .int 20, .int 60, .ref (g 34), v1, .int 0, .int 0, .int 0])), (k0, .inr (5, [.int 0, .int (-1), .int 0, .ref h1])), (k1, .inl (kc2, 8, .inl (upd (upd (upd (upd (upd (upd (upd (upd (fun _ => 0) 0 0) 1 20) 2 60) 3 0) 4 0) 5 0) 6 0) 7 0))), (h1, .inr (6, [.int 0, v2, .int 0]))]) (va_A [(h0, .inr (23, [v0, .ref h1, .int 20, .int 60, .ref (g 34), v1, .int 0, .int 0, .int 0])), (h1, .inr (6, [.int 0, v2, .int 0]))] sz)) 2 12 (va_A [(h0, .inr (23, [v0, .ref h1, .int 20, .int 60, .ref (g 34), v1, .int 0, .int 0, .int 0])), (h1, .inr (6, [.int 0, v2, .int 0]))] sz) := by
  refine Met.ofW (cc := cX16_houseTold) (maxL := 5) (ret := (some .int)) (by decide) rfl ?_
  intro p e s m args below meth c s₁ B hml hv
  obtain ⟨rfl, hsz, hP, hK, hD0, hF⟩ := hv
  have hx := B.exec
  have hb := B.bytes
  have hr := B.returns
  have hts := atoms_spec (ws := wsX16_houseTold) B.pre
  have hown : s.vm.findClass RX16 = some m.cls := findClass_of_methodNamed B.named
  have hlocks := B.notSynchronized
  subst hsz
  have hD := hD0.self (sz := s.heap.size)
  generalize hAe : va_A [(h0, .inr (23, [v0, .ref h1, .int 20, .int 60, .ref (g 34), v1, .int 0, .int 0, .int 0])), (h1, .inr (6, [.int 0, v2, .int 0]))] s.heap.size = A at hD hF ⊢
  have hA : ∀ q : Nat, s.heap.size ≤ q → A q := fun q h => by rw [← hAe]; exact Or.inr h
  have hS : va_S A s.heap s.heap [] := va_S.rf
  have hP : va_P (dC, dI) vwCl [(h0, .inr (23, [v0, .ref h1, .int 20, .int 60, .ref (g 34), v1, .int 0, .int 0, .int 0])), (h1, .inr (6, [.int 0, v2, .int 0]))] s.heap := hP
  have hl := lv_entry ([.ref h0, .int 1]) (n := 5) (Nat.le_of_ble_eq_true rfl)
  rw [lg_entry_eq]
  generalize (lg_sl ([.ref h0, .int 1]) ++ List.replicate (5 - (lg_sl ([.ref h0, .int 1])).length) Slot.unset).toArray = ls at hl ⊢
  have hl : lv_has ls 5 [(0, .ref h0), (1, .int 1)] := hl
  refine lv_iconst (v := 0) hx hb dX16_houseTold_0 (by decide) ?_
  refine lv_istore_n (lv' := [(2, .int 0), (0, .ref h0), (1, .int 1)]) hx hb dX16_houseTold_1 rfl hl (by decide) rfl (fun ls hl => ?_)
  refine lv_aload_n hx hb dX16_houseTold_2 rfl (lv_at hl 1 rfl) ?_
  refine va_get (D := (dC, dI)) (ci := 23) (v := .ref h1) (C := RX16) (T := TX16) (N := 9) hx hb hts (by decide +kernel) hown hK hP 0 rfl rfl 1 (by decide) (hts (.fieldLink RX16 10 "NestprintModel" "nodes" "Ljava/util/ArrayList;") (by decide +kernel)) (fun _ h9 => h9) rfl dX16_houseTold_3 ?_
  have hPc := hP.sub (ws' := [(h1, .inr (6, [.int 0, v2, .int 0]))]) [1] rfl
  have hDc := hD.sub (ws' := [(h1, .inr (6, [.int 0, v2, .int 0]))]) [1] (by decide) rfl
  have hKc := hK.sub (tys' := []) [] rfl
  have hFc := va_free (wc := [(h1, .inr (6, [.int 0, v2, .int 0]))]) hD hS hA [1] rfl
  refine va_callr (va_runV (As := []) (rest := []) ⟨hx, hb, hml, hown, hts⟩ (kJx4a65c_iterator_32c93 l dC dI g s.heap.size h1 v2 (.int 0) ) (cwV 0 hts gX16_houseTold_Jx4a65c_iterator_32c93 rfl rfl rfl (by decide +kernel) ⟨Nat.le_of_ble_eq_true rfl, Nat.le_of_ble_eq_true rfl⟩) ⟨fun a U gg mk q => by obtain ⟨q0, q1, qP, qK, qD, qF⟩ := q; exact ⟨q0, q1, qP, va_K.moved (u := U) (U := U.calling gg mk a) (Vm.Alike.refl U.vm) qK, qD, ns_same qF⟩, va_recv hK hP (ci := 6) (q0 := 1) rfl rfl, fun U hU hW => ⟨rfl, by rw [hU], by rw [hU]; exact hPc, va_K.moved hW.alike hKc, hDc.weaken (fun _ _ _ _ => trivial), ns_call hF hS hFc hU hW⟩⟩ rfl rfl hl.1 rfl (lv_room (Nat.le_of_ble_eq_true rfl)) dX16_houseTold_6 ⟨Nat.le_of_ble_eq_true rfl, Nat.le_of_ble_eq_true rfl⟩) hS (fun q _ h => hFc q h) hFc (fun u r9 t H1 locs ht hvm hw hB hz1 hk1 hS => ?_)
  obtain ⟨q1, rfl, hP1, hK1, hD1⟩ := hB
  rw [ht] at hP1
  have hK1 := va_K.moved hvm.symm hK1
  obtain ⟨hP, hD⟩ := va_join (wr := [(h0, .inr (23, [v0, .ref h1, .int 20, .int 60, .ref (g 34), v1, .int 0, .int 0, .int 0]))]) (w1 := [(q1, .inr (5, [.int 0, .int (-1), .int 0, .ref h1])), (h1, .inr (6, [.int 0, v2, .int 0]))]) hP hD [1] [0] rfl rfl (by decide) (by decide) hk1 hFc hP1 hD1
  have hK := (hK.sub (tys' := []) [] rfl).app hK1
  generalize H1 = H at hP hS ⊢
  have hP : va_P (dC, dI) vwCl [(h0, .inr (23, [v0, .ref h1, .int 20, .int 60, .ref (g 34), v1, .int 0, .int 0, .int 0])), (q1, .inr (5, [.int 0, .int (-1), .int 0, .ref h1])), (h1, .inr (6, [.int 0, v2, .int 0]))] H := hP
  have hD : va_D A [(h0, .inr (23, [v0, .ref h1, .int 20, .int 60, .ref (g 34), v1, .int 0, .int 0, .int 0])), (q1, .inr (5, [.int 0, .int (-1), .int 0, .ref h1])), (h1, .inr (6, [.int 0, v2, .int 0]))] := hD
  have hK : va_K (dC, dI) vwCl [] s := hK
  refine W.widen (k := 1) (n := 4) (Nat.le_of_ble_eq_true rfl) (Nat.le_of_ble_eq_true rfl) ?_
  refine lv_astore_n (lv' := [(3, .ref q1), (2, .int 0), (0, .ref h0), (1, .int 1)]) hx hb dX16_houseTold_9 rfl hl (by decide) rfl (fun ls hl => ?_)
  refine lv_aload_n hx hb dX16_houseTold_10 rfl (lv_at hl 0 rfl) ?_
  have hPc := hP.sub (ws' := [(q1, .inr (5, [.int 0, .int (-1), .int 0, .ref h1])), (h1, .inr (6, [.int 0, v2, .int 0]))]) [1, 2] rfl
  have hDc := hD.sub (ws' := [(q1, .inr (5, [.int 0, .int (-1), .int 0, .ref h1])), (h1, .inr (6, [.int 0, v2, .int 0]))]) [1, 2] (by decide) rfl
  have hKc := hK.sub (tys' := []) [] rfl
  have hFc := va_free (wc := [(q1, .inr (5, [.int 0, .int (-1), .int 0, .ref h1])), (h1, .inr (6, [.int 0, v2, .int 0]))]) hD hS hA [1, 2] rfl
  refine va_callFi (va_runF (hK.1 5 _ rfl).2 (As := []) (rest := []) ⟨hx, hb, hml, hown, hts⟩ (kJx35411_hasNext_aae02 l dC dI g H.size q1 h1 (.int (-1)) (.int 0) (.int 0) v2 ) (va_cwF 0 hts gX16_houseTold_Jx35411_hasNext_aae02_f133Jx35411 rfl rfl rfl (ns_f51 hF) (by decide +kernel) ⟨Nat.le_of_ble_eq_true rfl, Nat.le_of_ble_eq_true rfl⟩) ⟨fun a U gg mk q => by obtain ⟨q0, q1, qP, qK, qD, qF⟩ := q; exact ⟨q0, q1, qP, va_K.moved (u := U) (U := U.calling gg mk a) (Vm.Alike.refl U.vm) qK, qD, ns_same qF⟩, va_recv hK hP (ci := 5) (q0 := 1) rfl rfl, fun U hU hW => ⟨rfl, by rw [hU], by rw [hU]; exact hPc, va_K.moved hW.alike hKc, hDc.weaken (fun _ _ _ _ => trivial), ns_call hF hS hFc hU hW⟩⟩ rfl rfl hl.1 rfl (lv_room (Nat.le_of_ble_eq_true rfl)) dX16_houseTold_11 ⟨Nat.le_of_ble_eq_true rfl, Nat.le_of_ble_eq_true rfl⟩) hS (fun q _ h => hFc q h) hFc (fun r9 u t H1 locs ht hvm hw hB hz1 hk1 hS => ?_)
  obtain rfl := hw
  obtain ⟨hP1, hK1, hD1⟩ := hB
  rw [ht] at hP1
  have hK1 := va_K.moved hvm.symm hK1
  obtain ⟨hP, hD⟩ := va_join (wr := [(h0, .inr (23, [v0, .ref h1, .int 20, .int 60, .ref (g 34), v1, .int 0, .int 0, .int 0]))]) (w1 := [(q1, .inr (5, [.int 0, .int (-1), .int 0, .ref h1])), (h1, .inr (6, [.int 0, v2, .int 0]))]) hP hD [1, 2] [0] rfl rfl (by decide) (by decide) hk1 hFc hP1 hD1
  have hK := (hK.sub (tys' := []) [] rfl).app hK1
  generalize H1 = H at hP hS ⊢
  have hP : va_P (dC, dI) vwCl [(h0, .inr (23, [v0, .ref h1, .int 20, .int 60, .ref (g 34), v1, .int 0, .int 0, .int 0])), (q1, .inr (5, [.int 0, .int (-1), .int 0, .ref h1])), (h1, .inr (6, [.int 0, v2, .int 0]))] H := hP
  have hD : va_D A [(h0, .inr (23, [v0, .ref h1, .int 20, .int 60, .ref (g 34), v1, .int 0, .int 0, .int 0])), (q1, .inr (5, [.int 0, .int (-1), .int 0, .ref h1])), (h1, .inr (6, [.int 0, v2, .int 0]))] := hD
  have hK : va_K (dC, dI) vwCl [] s := hK
  refine W.widen (k := 1) (n := 4) (Nat.le_of_ble_eq_true rfl) (Nat.le_of_ble_eq_true rfl) ?_
  refine lv_if_eq (tgt := 41) hx hb dX16_houseTold_16 (by decide) (fun c2 => ?_) (fun c2 => absurd (by decide) c2)
  refine lv_bipush (v := 8) hx hb dX16_houseTold_41 (by decide) ?_
  refine va_newa (atype := .int) hx hb (hts (.arrayClass .int) (by decide +kernel)) rfl hK hP hD hS hA (N' := 8) (a0 := (8, .inl (fun _ => 0))) (fun _ => rfl) (by decide) (by decide) (Nat.le_of_ble_eq_true rfl) (Nat.le_of_ble_eq_true rfl) (Nat.le_of_ble_eq_true rfl) dX16_houseTold_43 (fun q3 cyq3 H hK hP hD hS => ?_)
  have hP : va_P (dC, dI) vwCl [(h0, .inr (23, [v0, .ref h1, .int 20, .int 60, .ref (g 34), v1, .int 0, .int 0, .int 0])), (q1, .inr (5, [.int 0, .int (-1), .int 0, .ref h1])), (h1, .inr (6, [.int 0, v2, .int 0])), (q3, .inl (cyq3, 8, .inl (fun _ => 0)))] H := hP
  have hD : va_D A [(h0, .inr (23, [v0, .ref h1, .int 20, .int 60, .ref (g 34), v1, .int 0, .int 0, .int 0])), (q1, .inr (5, [.int 0, .int (-1), .int 0, .ref h1])), (h1, .inr (6, [.int 0, v2, .int 0])), (q3, .inl (cyq3, 8, .inl (fun _ => 0)))] := hD
  have hK : va_K (dC, dI) vwCl [(cyq3, .int)] s := hK
  refine W.widen (k := 2) (n := 12) (Nat.le_of_ble_eq_true rfl) (Nat.le_of_ble_eq_true rfl) ?_
  refine lv_dup hx hb dX16_houseTold_45 rfl ?_
  refine lv_iconst (v := 0) hx hb dX16_houseTold_46 (by decide) ?_
  refine lv_aload_n hx hb dX16_houseTold_47 rfl (lv_at hl 2 rfl) ?_
  refine va_get (D := (dC, dI)) (ci := 23) (v := .ref h1) (C := RX16) (T := TX16) (N := 9) hx hb hts (by decide +kernel) hown hK hP 0 rfl rfl 1 (by decide) (hts (.fieldLink RX16 10 "NestprintModel" "nodes" "Ljava/util/ArrayList;") (by decide +kernel)) (fun _ h9 => h9) rfl dX16_houseTold_48 ?_
  have hPc := hP.sub (ws' := [(h1, .inr (6, [.int 0, v2, .int 0]))]) [2] rfl
  have hDc := hD.sub (ws' := [(h1, .inr (6, [.int 0, v2, .int 0]))]) [2] (by decide) rfl
  have hKc := hK.sub (tys' := []) [] rfl
  have hFc := va_free (wc := [(h1, .inr (6, [.int 0, v2, .int 0]))]) hD hS hA [2] rfl
  refine va_calli (va_runV (As := []) (rest := [.int 0, .ref q3, .ref q3]) ⟨hx, hb, hml, hown, hts⟩ (kJx4a65c_size_8abf5 l dC dI g H.size h1 (.int 0) v2 ) (cwV 0 hts gX16_houseTold_Jx4a65c_size_8abf5 rfl rfl rfl (by decide +kernel) ⟨Nat.le_of_ble_eq_true rfl, Nat.le_of_ble_eq_true rfl⟩) ⟨fun a U gg mk q => by obtain ⟨q0, q1, qP, qK, qD, qF⟩ := q; exact ⟨q0, q1, qP, va_K.moved (u := U) (U := U.calling gg mk a) (Vm.Alike.refl U.vm) qK, qD, ns_same qF⟩, va_recv hK hP (ci := 6) (q0 := 2) rfl rfl, fun U hU hW => ⟨rfl, by rw [hU], by rw [hU]; exact hPc, va_K.moved hW.alike hKc, hDc.weaken (fun _ _ _ _ => trivial), ns_call hF hS hFc hU hW⟩⟩ rfl rfl hl.1 rfl (lv_room (Nat.le_of_ble_eq_true rfl)) dX16_houseTold_51 ⟨Nat.le_of_ble_eq_true rfl, Nat.le_of_ble_eq_true rfl⟩) hS (fun q _ h => hFc q h) hFc (fun r9 u t H1 locs ht hvm hw hB hz1 hk1 hS => ?_)
  obtain rfl := hw
  obtain ⟨hP1, hK1, hD1⟩ := hB
  rw [ht] at hP1
  have hK1 := va_K.moved hvm.symm hK1
  obtain ⟨hP, hD⟩ := va_join (wr := [(h0, .inr (23, [v0, .ref h1, .int 20, .int 60, .ref (g 34), v1, .int 0, .int 0, .int 0])), (q1, .inr (5, [.int 0, .int (-1), .int 0, .ref h1])), (q3, .inl (cyq3, 8, .inl (fun _ => 0)))]) (w1 := [(h1, .inr (6, [.int 0, v2, .int 0]))]) hP hD [2] [0, 1, 3] rfl rfl (by decide) (by decide) hk1 hFc hP1 hD1
  have hK := (hK.sub (tys' := [(cyq3, .int)]) [0] rfl).app hK1
  generalize H1 = H at hP hS ⊢
  have hP : va_P (dC, dI) vwCl [(h0, .inr (23, [v0, .ref h1, .int 20, .int 60, .ref (g 34), v1, .int 0, .int 0, .int 0])), (q1, .inr (5, [.int 0, .int (-1), .int 0, .ref h1])), (q3, .inl (cyq3, 8, .inl (fun _ => 0))), (h1, .inr (6, [.int 0, v2, .int 0]))] H := hP
  have hD : va_D A [(h0, .inr (23, [v0, .ref h1, .int 20, .int 60, .ref (g 34), v1, .int 0, .int 0, .int 0])), (q1, .inr (5, [.int 0, .int (-1), .int 0, .ref h1])), (q3, .inl (cyq3, 8, .inl (fun _ => 0))), (h1, .inr (6, [.int 0, v2, .int 0]))] := hD
  have hK : va_K (dC, dI) vwCl [(cyq3, .int)] s := hK
  refine W.widen (k := 2) (n := 12) (Nat.le_of_ble_eq_true rfl) (Nat.le_of_ble_eq_true rfl) ?_
  refine va_iast hx hb hK hP hD hS 2 0 rfl rfl (vp_in_nI (n := 0) (by decide) (by decide)) dX16_houseTold_54 (fun H locs hP hD hS => ?_)
  have hP : va_P (dC, dI) vwCl [(h0, .inr (23, [v0, .ref h1, .int 20, .int 60, .ref (g 34), v1, .int 0, .int 0, .int 0])), (q1, .inr (5, [.int 0, .int (-1), .int 0, .ref h1])), (q3, .inl (cyq3, 8, .inl (upd (fun _ => 0) 0 0))), (h1, .inr (6, [.int 0, v2, .int 0]))] H := hP
  have hD : va_D A [(h0, .inr (23, [v0, .ref h1, .int 20, .int 60, .ref (g 34), v1, .int 0, .int 0, .int 0])), (q1, .inr (5, [.int 0, .int (-1), .int 0, .ref h1])), (q3, .inl (cyq3, 8, .inl (upd (fun _ => 0) 0 0))), (h1, .inr (6, [.int 0, v2, .int 0]))] := hD
  refine lv_dup hx hb dX16_houseTold_55 rfl ?_
  refine lv_iconst (v := 1) hx hb dX16_houseTold_56 (by decide) ?_
  refine lv_aload_n hx hb dX16_houseTold_57 rfl (lv_at hl 2 rfl) ?_
  refine va_get (D := (dC, dI)) (ci := 23) (v := .int 20) (C := RX16) (T := TX16) (N := 9) hx hb hts (by decide +kernel) hown hK hP 0 rfl rfl 2 (by decide) (hts (.fieldLink RX16 16 "NestprintModel" "width" "I") (by decide +kernel)) (fun _ h9 => h9) rfl dX16_houseTold_58 ?_
  refine va_iast hx hb hK hP hD hS 2 0 rfl rfl (vp_in_nI (n := 1) (by decide) (by decide)) dX16_houseTold_61 (fun H locs hP hD hS => ?_)
  have hP : va_P (dC, dI) vwCl [(h0, .inr (23, [v0, .ref h1, .int 20, .int 60, .ref (g 34), v1, .int 0, .int 0, .int 0])), (q1, .inr (5, [.int 0, .int (-1), .int 0, .ref h1])), (q3, .inl (cyq3, 8, .inl (upd (upd (fun _ => 0) 0 0) 1 20))), (h1, .inr (6, [.int 0, v2, .int 0]))] H := hP
  have hD : va_D A [(h0, .inr (23, [v0, .ref h1, .int 20, .int 60, .ref (g 34), v1, .int 0, .int 0, .int 0])), (q1, .inr (5, [.int 0, .int (-1), .int 0, .ref h1])), (q3, .inl (cyq3, 8, .inl (upd (upd (fun _ => 0) 0 0) 1 20))), (h1, .inr (6, [.int 0, v2, .int 0]))] := hD
  refine lv_dup hx hb dX16_houseTold_62 rfl ?_
  refine lv_iconst (v := 2) hx hb dX16_houseTold_63 (by decide) ?_
  refine lv_aload_n hx hb dX16_houseTold_64 rfl (lv_at hl 2 rfl) ?_
  refine va_get (D := (dC, dI)) (ci := 23) (v := .int 60) (C := RX16) (T := TX16) (N := 9) hx hb hts (by decide +kernel) hown hK hP 0 rfl rfl 3 (by decide) (hts (.fieldLink RX16 20 "NestprintModel" "ribbon" "I") (by decide +kernel)) (fun _ h9 => h9) rfl dX16_houseTold_65 ?_
  refine va_iast hx hb hK hP hD hS 2 0 rfl rfl (vp_in_nI (n := 2) (by decide) (by decide)) dX16_houseTold_68 (fun H locs hP hD hS => ?_)
  have hP : va_P (dC, dI) vwCl [(h0, .inr (23, [v0, .ref h1, .int 20, .int 60, .ref (g 34), v1, .int 0, .int 0, .int 0])), (q1, .inr (5, [.int 0, .int (-1), .int 0, .ref h1])), (q3, .inl (cyq3, 8, .inl (upd (upd (upd (fun _ => 0) 0 0) 1 20) 2 60))), (h1, .inr (6, [.int 0, v2, .int 0]))] H := hP
  have hD : va_D A [(h0, .inr (23, [v0, .ref h1, .int 20, .int 60, .ref (g 34), v1, .int 0, .int 0, .int 0])), (q1, .inr (5, [.int 0, .int (-1), .int 0, .ref h1])), (q3, .inl (cyq3, 8, .inl (upd (upd (upd (fun _ => 0) 0 0) 1 20) 2 60))), (h1, .inr (6, [.int 0, v2, .int 0]))] := hD
  refine lv_dup hx hb dX16_houseTold_69 rfl ?_
  refine lv_iconst (v := 3) hx hb dX16_houseTold_70 (by decide) ?_
  refine lv_aload_n hx hb dX16_houseTold_71 rfl (lv_at hl 2 rfl) ?_
  refine va_get (D := (dC, dI)) (ci := 23) (v := .ref (g 34)) (C := RX16) (T := TX16) (N := 9) hx hb hts (by decide +kernel) hown hK hP 0 rfl rfl 4 (by decide) (hts (.fieldLink RX16 25 "NestprintModel" "typed" "Ljava/lang/String;") (by decide +kernel)) (fun _ h9 => h9) rfl dX16_houseTold_72 ?_
  have hPc := hP.sub (ws' := []) [] rfl
  have hDc := hD.sub (ws' := []) [] (by decide) rfl
  have hKc := hK.sub (tys' := []) [] rfl
  have hFc := va_free (wc := []) hD hS hA [] rfl
  refine va_calli (va_runV (As := []) (rest := [.int 3, .ref q3, .ref q3]) ⟨hx, hb, hml, hown, hts⟩ (kJ0_length_8abf5 l dC dI g H.size  ) (cwV 0 hts gX16_houseTold_J0_length_8abf5 rfl rfl rfl (by decide +kernel) ⟨Nat.le_of_ble_eq_true rfl, Nat.le_of_ble_eq_true rfl⟩) ⟨fun a U gg mk q => by obtain ⟨q0, q1, qP, qK, qD, qF⟩ := q; exact ⟨q0, q1, qP, va_K.moved (u := U) (U := U.calling gg mk a) (Vm.Alike.refl U.vm) qK, qD, ns_same qF⟩, va_Orecv (ns_f37 hF) hS, fun U hU hW => ⟨rfl, by rw [hU], by rw [hU]; exact hPc, va_K.moved hW.alike hKc, hDc.weaken (fun _ _ _ _ => trivial), ns_call hF hS hFc hU hW⟩⟩ rfl rfl hl.1 rfl (lv_room (Nat.le_of_ble_eq_true rfl)) dX16_houseTold_75 ⟨Nat.le_of_ble_eq_true rfl, Nat.le_of_ble_eq_true rfl⟩) hS (fun q _ h => hFc q h) hFc (fun r9 u t H1 locs ht hvm hw hB hz1 hk1 hS => ?_)
  obtain rfl := hw
  obtain ⟨hP1, hK1, hD1⟩ := hB
  rw [ht] at hP1
  have hK1 := va_K.moved hvm.symm hK1
  obtain ⟨hP, hD⟩ := va_join (wr := [(h0, .inr (23, [v0, .ref h1, .int 20, .int 60, .ref (g 34), v1, .int 0, .int 0, .int 0])), (q1, .inr (5, [.int 0, .int (-1), .int 0, .ref h1])), (q3, .inl (cyq3, 8, .inl (upd (upd (upd (fun _ => 0) 0 0) 1 20) 2 60))), (h1, .inr (6, [.int 0, v2, .int 0]))]) (w1 := []) hP hD [] [0, 1, 2, 3] rfl rfl (by decide) (by decide) hk1 hFc hP1 hD1
  have hK := (hK.sub (tys' := [(cyq3, .int)]) [0] rfl).app hK1
  generalize H1 = H at hP hS ⊢
  have hP : va_P (dC, dI) vwCl [(h0, .inr (23, [v0, .ref h1, .int 20, .int 60, .ref (g 34), v1, .int 0, .int 0, .int 0])), (q1, .inr (5, [.int 0, .int (-1), .int 0, .ref h1])), (q3, .inl (cyq3, 8, .inl (upd (upd (upd (fun _ => 0) 0 0) 1 20) 2 60))), (h1, .inr (6, [.int 0, v2, .int 0]))] H := hP
  have hD : va_D A [(h0, .inr (23, [v0, .ref h1, .int 20, .int 60, .ref (g 34), v1, .int 0, .int 0, .int 0])), (q1, .inr (5, [.int 0, .int (-1), .int 0, .ref h1])), (q3, .inl (cyq3, 8, .inl (upd (upd (upd (fun _ => 0) 0 0) 1 20) 2 60))), (h1, .inr (6, [.int 0, v2, .int 0]))] := hD
  have hK : va_K (dC, dI) vwCl [(cyq3, .int)] s := hK
  refine W.widen (k := 2) (n := 12) (Nat.le_of_ble_eq_true rfl) (Nat.le_of_ble_eq_true rfl) ?_
  refine va_iast hx hb hK hP hD hS 2 0 rfl rfl (vp_in_nI (n := 3) (by decide) (by decide)) dX16_houseTold_78 (fun H locs hP hD hS => ?_)
  have hP : va_P (dC, dI) vwCl [(h0, .inr (23, [v0, .ref h1, .int 20, .int 60, .ref (g 34), v1, .int 0, .int 0, .int 0])), (q1, .inr (5, [.int 0, .int (-1), .int 0, .ref h1])), (q3, .inl (cyq3, 8, .inl (upd (upd (upd (upd (fun _ => 0) 0 0) 1 20) 2 60) 3 0))), (h1, .inr (6, [.int 0, v2, .int 0]))] H := hP
  have hD : va_D A [(h0, .inr (23, [v0, .ref h1, .int 20, .int 60, .ref (g 34), v1, .int 0, .int 0, .int 0])), (q1, .inr (5, [.int 0, .int (-1), .int 0, .ref h1])), (q3, .inl (cyq3, 8, .inl (upd (upd (upd (upd (fun _ => 0) 0 0) 1 20) 2 60) 3 0))), (h1, .inr (6, [.int 0, v2, .int 0]))] := hD
  refine lv_dup hx hb dX16_houseTold_79 rfl ?_
  refine lv_iconst (v := 4) hx hb dX16_houseTold_80 (by decide) ?_
  refine lv_aload_n hx hb dX16_houseTold_81 rfl (lv_at hl 2 rfl) ?_
  refine va_get (D := (dC, dI)) (ci := 23) (v := .int 0) (C := RX16) (T := TX16) (N := 9) hx hb hts (by decide +kernel) hown hK hP 0 rfl rfl 6 (by decide) (hts (.fieldLink RX16 272 "NestprintModel" "counted" "I") (by decide +kernel)) (fun _ h9 => h9) rfl dX16_houseTold_82 ?_
  refine va_iast hx hb hK hP hD hS 2 0 rfl rfl (vp_in_nI (n := 4) (by decide) (by decide)) dX16_houseTold_85 (fun H locs hP hD hS => ?_)
  have hP : va_P (dC, dI) vwCl [(h0, .inr (23, [v0, .ref h1, .int 20, .int 60, .ref (g 34), v1, .int 0, .int 0, .int 0])), (q1, .inr (5, [.int 0, .int (-1), .int 0, .ref h1])), (q3, .inl (cyq3, 8, .inl (upd (upd (upd (upd (upd (fun _ => 0) 0 0) 1 20) 2 60) 3 0) 4 0))), (h1, .inr (6, [.int 0, v2, .int 0]))] H := hP
  have hD : va_D A [(h0, .inr (23, [v0, .ref h1, .int 20, .int 60, .ref (g 34), v1, .int 0, .int 0, .int 0])), (q1, .inr (5, [.int 0, .int (-1), .int 0, .ref h1])), (q3, .inl (cyq3, 8, .inl (upd (upd (upd (upd (upd (fun _ => 0) 0 0) 1 20) 2 60) 3 0) 4 0))), (h1, .inr (6, [.int 0, v2, .int 0]))] := hD
  refine lv_dup hx hb dX16_houseTold_86 rfl ?_
  refine lv_iconst (v := 5) hx hb dX16_houseTold_87 (by decide) ?_
  refine lv_aload_n hx hb dX16_houseTold_88 rfl (lv_at hl 2 rfl) ?_
  refine va_get (D := (dC, dI)) (ci := 23) (v := .int 0) (C := RX16) (T := TX16) (N := 9) hx hb hts (by decide +kernel) hown hK hP 0 rfl rfl 7 (by decide) (hts (.fieldLink RX16 275 "NestprintModel" "knocks" "I") (by decide +kernel)) (fun _ h9 => h9) rfl dX16_houseTold_89 ?_
  refine va_iast hx hb hK hP hD hS 2 0 rfl rfl (vp_in_nI (n := 5) (by decide) (by decide)) dX16_houseTold_92 (fun H locs hP hD hS => ?_)
  have hP : va_P (dC, dI) vwCl [(h0, .inr (23, [v0, .ref h1, .int 20, .int 60, .ref (g 34), v1, .int 0, .int 0, .int 0])), (q1, .inr (5, [.int 0, .int (-1), .int 0, .ref h1])), (q3, .inl (cyq3, 8, .inl (upd (upd (upd (upd (upd (upd (fun _ => 0) 0 0) 1 20) 2 60) 3 0) 4 0) 5 0))), (h1, .inr (6, [.int 0, v2, .int 0]))] H := hP
  have hD : va_D A [(h0, .inr (23, [v0, .ref h1, .int 20, .int 60, .ref (g 34), v1, .int 0, .int 0, .int 0])), (q1, .inr (5, [.int 0, .int (-1), .int 0, .ref h1])), (q3, .inl (cyq3, 8, .inl (upd (upd (upd (upd (upd (upd (fun _ => 0) 0 0) 1 20) 2 60) 3 0) 4 0) 5 0))), (h1, .inr (6, [.int 0, v2, .int 0]))] := hD
  refine lv_dup hx hb dX16_houseTold_93 rfl ?_
  refine lv_bipush (v := 6) hx hb dX16_houseTold_94 (by decide) ?_
  refine lv_aload_n hx hb dX16_houseTold_96 rfl (lv_at hl 2 rfl) ?_
  refine va_get (D := (dC, dI)) (ci := 23) (v := .int 0) (C := RX16) (T := TX16) (N := 9) hx hb hts (by decide +kernel) hown hK hP 0 rfl rfl 8 (by decide) (hts (.fieldLink RX16 193 "NestprintModel" "ever" "I") (by decide +kernel)) (fun _ h9 => h9) rfl dX16_houseTold_97 ?_
  refine va_iast hx hb hK hP hD hS 2 0 rfl rfl (vp_in_nI (n := 6) (by decide) (by decide)) dX16_houseTold_100 (fun H locs hP hD hS => ?_)
  have hP : va_P (dC, dI) vwCl [(h0, .inr (23, [v0, .ref h1, .int 20, .int 60, .ref (g 34), v1, .int 0, .int 0, .int 0])), (q1, .inr (5, [.int 0, .int (-1), .int 0, .ref h1])), (q3, .inl (cyq3, 8, .inl (upd (upd (upd (upd (upd (upd (upd (fun _ => 0) 0 0) 1 20) 2 60) 3 0) 4 0) 5 0) 6 0))), (h1, .inr (6, [.int 0, v2, .int 0]))] H := hP
  have hD : va_D A [(h0, .inr (23, [v0, .ref h1, .int 20, .int 60, .ref (g 34), v1, .int 0, .int 0, .int 0])), (q1, .inr (5, [.int 0, .int (-1), .int 0, .ref h1])), (q3, .inl (cyq3, 8, .inl (upd (upd (upd (upd (upd (upd (upd (fun _ => 0) 0 0) 1 20) 2 60) 3 0) 4 0) 5 0) 6 0))), (h1, .inr (6, [.int 0, v2, .int 0]))] := hD
  refine lv_dup hx hb dX16_houseTold_101 rfl ?_
  refine lv_bipush (v := 7) hx hb dX16_houseTold_102 (by decide) ?_
  refine lv_iload_n hx hb dX16_houseTold_104 rfl (lv_at hl 1 rfl) ?_
  refine va_iast hx hb hK hP hD hS 2 0 rfl rfl (vp_in_nI (n := 7) (by decide) (by decide)) dX16_houseTold_105 (fun H locs hP hD hS => ?_)
  have hP : va_P (dC, dI) vwCl [(h0, .inr (23, [v0, .ref h1, .int 20, .int 60, .ref (g 34), v1, .int 0, .int 0, .int 0])), (q1, .inr (5, [.int 0, .int (-1), .int 0, .ref h1])), (q3, .inl (cyq3, 8, .inl (upd (upd (upd (upd (upd (upd (upd (upd (fun _ => 0) 0 0) 1 20) 2 60) 3 0) 4 0) 5 0) 6 0) 7 0))), (h1, .inr (6, [.int 0, v2, .int 0]))] H := hP
  have hD : va_D A [(h0, .inr (23, [v0, .ref h1, .int 20, .int 60, .ref (g 34), v1, .int 0, .int 0, .int 0])), (q1, .inr (5, [.int 0, .int (-1), .int 0, .ref h1])), (q3, .inl (cyq3, 8, .inl (upd (upd (upd (upd (upd (upd (upd (upd (fun _ => 0) 0 0) 1 20) 2 60) 3 0) 4 0) 5 0) 6 0) 7 0))), (h1, .inr (6, [.int 0, v2, .int 0]))] := hD
  refine lv_astore_n (lv' := [(3, .ref q3), (2, .int 0), (0, .ref h0), (1, .int 1)]) hx hb dX16_houseTold_106 rfl hl (by decide) rfl (fun ls hl => ?_)
  refine lv_aload_n hx hb dX16_houseTold_107 rfl (lv_at hl 0 rfl) ?_
  refine lv_iload_n hx hb dX16_houseTold_108 rfl (lv_at hl 3 rfl) ?_
  refine va_iald hx hb hK hP 2 0 rfl rfl (vp_in_nI (n := 1) (by decide) (by decide)) dX16_houseTold_109 ?_
  refine lv_topi (fun y4 ey4 => ?_)
  obtain rfl : y4 = 20 := ey4
  have hP9 := hP.sub (ws' := [(h0, .inr (23, [v0, .ref h1, .int 20, .int 60, .ref (g 34), v1, .int 0, .int 0, .int 0])), (q1, .inr (5, [.int 0, .int (-1), .int 0, .ref h1])), (q3, .inl (cyq3, 8, .inl (upd (upd (upd (upd (upd (upd (upd (upd (fun _ => 0) 0 0) 1 20) 2 60) 3 0) 4 0) 5 0) 6 0) 7 0))), (h1, .inr (6, [.int 0, v2, .int 0]))]) [0, 1, 2, 3] rfl
  have hD9 := hD.sub (ws' := [(h0, .inr (23, [v0, .ref h1, .int 20, .int 60, .ref (g 34), v1, .int 0, .int 0, .int 0])), (q1, .inr (5, [.int 0, .int (-1), .int 0, .ref h1])), (q3, .inl (cyq3, 8, .inl (upd (upd (upd (upd (upd (upd (upd (upd (fun _ => 0) 0 0) 1 20) 2 60) 3 0) 4 0) 5 0) 6 0) 7 0))), (h1, .inr (6, [.int 0, v2, .int 0]))]) [0, 1, 2, 3] (by decide) rfl
  have hK9 := hK.sub (tys' := [(cyq3, .int)]) [0] rfl
  refine W.widen (k := 2) (n := 12) (Nat.le_of_ble_eq_true rfl) (Nat.le_of_ble_eq_true rfl) ?_
  exact W.iret (v := 20) hx hb hr (fun t ht hW => ⟨⟨_, (), rfl, rfl, q1, q3, cyq3, by rw [ht]; exact hP9, va_K.moved hW.alike hK9, hD9⟩, hS.F ht⟩) hS.2.2 dX16_houseTold_110
set_option maxHeartbeats 4000000 in
set_option maxRecDepth 100000 in
theorem kX16_house_3 (l : Launch) (dC : Nat → ClassId) (dI : Nat → Nat → Nat) (g : Nat → Nat) (sz : Nat) (h0 : Nat) (h1 : Nat) (v0 : Value) (v1 : Value) (v2 : Value) : Met l yX16_house wsX16_house ({ frames := 4, cells := 2, slots := 12, locals := 77 }) (va_Pc [.ref h0, .int 1] (fun U => U.heap.size = sz ∧ va_P (dC, dI) vwCl [(h0, .inr (23, [v0, .ref h1, .int 20, .int 60, .ref (g 34), v1, .int 0, .int 0, .int 0])), (h1, .inr (6, [.int 0, v2, .int 0]))] U.heap ∧ va_K (dC, dI) vwCl [] U ∧ va_D (fun _ => True) [(h0, .inr (23, [v0, .ref h1, .int 20, .int 60, .ref (g 34), v1, .int 0, .int 0, .int 0])), (h1, .inr (6, [.int 0, v2, .int 0]))] ∧ ns_F g (va_A [(h0, .inr (23, [v0, .ref h1, .int 20, .int 60, .ref (g 34), v1, .int 0, .int 0, .int 0])), (h1, .inr (6, [.int 0, v2, .int 0]))] sz) U U.heap)) (va_Qi (fun (r : Int32) (_ : Unit) => r = 20) (fun _ t => ∃ k0 : Nat, ∃ k1 : Nat, ∃ kc2 : ClassId, va_P (dC, dI) vwCl [(h0, .inr (23, [.int 0, .ref h1, .int 20, .int 60, .ref (g 34), v1, .int 0, .int 0, .int 0])), (k0, .inr (5, [.int 0, .int (-1), .int 0, .ref h1])), (k1, .inl (kc2, 8, .inl (upd (upd (upd (upd (upd (upd (upd (upd (fun _ => 0) 0 0) 1 20) 2 60) 3 0) 4 0) 5 0) 6 0) 7 0))), (h1, .inr (6, [.int 0, v2, .int 0]))] t.heap ∧ va_K (dC, dI) vwCl [(kc2, .int)] t ∧ va_D (va_A [(h0, .inr (23, [v0, .ref h1, .int 20, .int 60, .ref (g 34), v1, .int 0, .int 0, .int 0])), (h1, .inr (6, [.int 0, v2, .int 0]))] sz) [(h0, .inr (23, [.int 0, .ref h1, .int 20, .int 60, .ref (g 34), v1, .int 0, .int 0, .int 0])), (k0, .inr (5, [.int 0, .int (-1), .int 0, .ref h1])), (k1, .inl (kc2, 8, .inl (upd (upd (upd (upd (upd (upd (upd (upd (fun _ => 0) 0 0) 1 20) 2 60) 3 0) 4 0) 5 0) 6 0) 7 0))), (h1, .inr (6, [.int 0, v2, .int 0]))]) (va_A [(h0, .inr (23, [v0, .ref h1, .int 20, .int 60, .ref (g 34), v1, .int 0, .int 0, .int 0])), (h1, .inr (6, [.int 0, v2, .int 0]))] sz)) 2 12 (va_A [(h0, .inr (23, [v0, .ref h1, .int 20, .int 60, .ref (g 34), v1, .int 0, .int 0, .int 0])), (h1, .inr (6, [.int 0, v2, .int 0]))] sz) := by
  refine Met.ofW (cc := cX16_house) (maxL := 2) (ret := (some .int)) (by decide) rfl ?_
  intro p e s m args below meth c s₁ B hml hv
  obtain ⟨rfl, hsz, hP, hK, hD0, hF⟩ := hv
  have hx := B.exec
  have hb := B.bytes
  have hr := B.returns
  have hts := atoms_spec (ws := wsX16_house) B.pre
  have hown : s.vm.findClass RX16 = some m.cls := findClass_of_methodNamed B.named
  have hlocks := B.notSynchronized
  subst hsz
  have hD := hD0.self (sz := s.heap.size)
  generalize hAe : va_A [(h0, .inr (23, [v0, .ref h1, .int 20, .int 60, .ref (g 34), v1, .int 0, .int 0, .int 0])), (h1, .inr (6, [.int 0, v2, .int 0]))] s.heap.size = A at hD hF ⊢
  have hA : ∀ q : Nat, s.heap.size ≤ q → A q := fun q h => by rw [← hAe]; exact Or.inr h
  have hS : va_S A s.heap s.heap [] := va_S.rf
  have hP : va_P (dC, dI) vwCl [(h0, .inr (23, [v0, .ref h1, .int 20, .int 60, .ref (g 34), v1, .int 0, .int 0, .int 0])), (h1, .inr (6, [.int 0, v2, .int 0]))] s.heap := hP
  have hl := lv_entry ([.ref h0, .int 1]) (n := 2) (Nat.le_of_ble_eq_true rfl)
  rw [lg_entry_eq]
  generalize (lg_sl ([.ref h0, .int 1]) ++ List.replicate (2 - (lg_sl ([.ref h0, .int 1])).length) Slot.unset).toArray = ls at hl ⊢
  have hl : lv_has ls 2 [(0, .ref h0), (1, .int 1)] := hl
  refine lv_aload_n hx hb dX16_house_0 rfl (lv_at hl 0 rfl) ?_
  refine lv_iload_n hx hb dX16_house_1 rfl (lv_at hl 1 rfl) ?_
  refine lv_iconst (v := 0) hx hb dX16_house_2 (by decide) ?_
  refine lv_bipush (v := 7) hx hb dX16_house_3 (by decide) ?_
  have hPc := hP.sub (ws' := []) [] rfl
  have hDc := hD.sub (ws' := []) [] (by decide) rfl
  have hKc := hK.sub (tys' := []) [] rfl
  have hFc := va_free (wc := []) hD hS hA [] rfl
  refine va_calli (va_runS (As := [.int 1, .int 0, .int 7]) (rest := [.ref h0]) ⟨hx, hb, hml, hown, hts⟩ (kX16_isIn_17 l dC dI g s.heap.size  ) (va_cwS 3 hts gX16_house_X16_isIn rfl rfl rfl (by decide +kernel) ⟨Nat.le_of_ble_eq_true rfl, Nat.le_of_ble_eq_true rfl⟩) ⟨fun a U gg mk q => by obtain ⟨q0, q1, qP, qK, qD, qF⟩ := q; exact ⟨q0, q1, qP, va_K.moved (u := U) (U := U.calling gg mk a) (Vm.Alike.refl U.vm) qK, qD, ns_same qF⟩, fun U hU hW => ⟨rfl, by rw [hU], by rw [hU]; exact hPc, va_K.moved hW.alike hKc, hDc.weaken (fun _ _ _ _ => trivial), ns_call hF hS hFc hU hW⟩⟩ rfl rfl hl.1 rfl (lv_room (Nat.le_of_ble_eq_true rfl)) dX16_house_5 ⟨Nat.le_of_ble_eq_true rfl, Nat.le_of_ble_eq_true rfl⟩) hS (fun q _ h => hFc q h) hFc (fun r9 u t H1 locs ht hvm hw hB hz1 hk1 hS => ?_)
  obtain rfl := hw
  obtain ⟨hP1, hK1, hD1⟩ := hB
  rw [ht] at hP1
  have hK1 := va_K.moved hvm.symm hK1
  obtain ⟨hP, hD⟩ := va_join (wr := [(h0, .inr (23, [v0, .ref h1, .int 20, .int 60, .ref (g 34), v1, .int 0, .int 0, .int 0])), (h1, .inr (6, [.int 0, v2, .int 0]))]) (w1 := []) hP hD [] [0, 1] rfl rfl (by decide) (by decide) hk1 hFc hP1 hD1
  have hK := (hK.sub (tys' := []) [] rfl).app hK1
  generalize H1 = H at hP hS ⊢
  have hP : va_P (dC, dI) vwCl [(h0, .inr (23, [v0, .ref h1, .int 20, .int 60, .ref (g 34), v1, .int 0, .int 0, .int 0])), (h1, .inr (6, [.int 0, v2, .int 0]))] H := hP
  have hD : va_D A [(h0, .inr (23, [v0, .ref h1, .int 20, .int 60, .ref (g 34), v1, .int 0, .int 0, .int 0])), (h1, .inr (6, [.int 0, v2, .int 0]))] := hD
  have hK : va_K (dC, dI) vwCl [] s := hK
  refine W.widen (k := 0) (n := 0) (Nat.le_of_ble_eq_true rfl) (Nat.le_of_ble_eq_true rfl) ?_
  refine lv_if_ne (tgt := 15) hx hb dX16_house_8 (by decide) (fun c1 => ?_) (fun c1 => absurd c1 (by decide))
  refine lv_iconst (v := 0) hx hb dX16_house_15 (by decide) ?_
  refine lv_iconst (v := 1) hx hb dX16_house_16 (by decide) ?_
  have hPc := hP.sub (ws' := [(h0, .inr (23, [v0, .ref h1, .int 20, .int 60, .ref (g 34), v1, .int 0, .int 0, .int 0]))]) [0] rfl
  have hDc := hD.sub (ws' := [(h0, .inr (23, [v0, .ref h1, .int 20, .int 60, .ref (g 34), v1, .int 0, .int 0, .int 0]))]) [0] (by decide) rfl
  have hKc := hK.sub (tys' := []) [] rfl
  have hFc := va_free (wc := [(h0, .inr (23, [v0, .ref h1, .int 20, .int 60, .ref (g 34), v1, .int 0, .int 0, .int 0]))]) hD hS hA [0] rfl
  refine va_calli (va_runV (As := [.int 0, .int 1]) (rest := []) ⟨hx, hb, hml, hown, hts⟩ (kX16_start_2 l dC dI g H.size h0 v0 (.ref h1) (.int 20) (.int 60) (.ref (g 34)) v1 (.int 0) (.int 0) (.int 0) ) (cwV 2 hts gX16_house_X16_start rfl rfl rfl (by decide +kernel) ⟨Nat.le_of_ble_eq_true rfl, Nat.le_of_ble_eq_true rfl⟩) ⟨fun a U gg mk q => by obtain ⟨q0, q1, qP, qK, qD, qF⟩ := q; exact ⟨q0, q1, qP, va_K.moved (u := U) (U := U.calling gg mk a) (Vm.Alike.refl U.vm) qK, qD, ns_same qF⟩, va_recv hK hP (ci := 23) (q0 := 0) rfl rfl, fun U hU hW => ⟨rfl, by rw [hU], by rw [hU]; exact hPc, va_K.moved hW.alike hKc, hDc.weaken (fun _ _ _ _ => trivial), ns_call hF hS hFc hU hW⟩⟩ rfl rfl hl.1 rfl (lv_room (Nat.le_of_ble_eq_true rfl)) dX16_house_17 ⟨Nat.le_of_ble_eq_true rfl, Nat.le_of_ble_eq_true rfl⟩) hS (fun q _ h => hFc q h) hFc (fun r9 u t H1 locs ht hvm hw hB hz1 hk1 hS => ?_)
  obtain rfl := hw
  obtain ⟨hP1, hK1, hD1⟩ := hB
  rw [ht] at hP1
  have hK1 := va_K.moved hvm.symm hK1
  obtain ⟨hP, hD⟩ := va_join (wr := [(h1, .inr (6, [.int 0, v2, .int 0]))]) (w1 := [(h0, .inr (23, [.int 0, .ref h1, .int 20, .int 60, .ref (g 34), v1, .int 0, .int 0, .int 0]))]) hP hD [0] [1] rfl rfl (by decide) (by decide) hk1 hFc hP1 hD1
  have hK := (hK.sub (tys' := []) [] rfl).app hK1
  generalize H1 = H at hP hS ⊢
  have hP : va_P (dC, dI) vwCl [(h1, .inr (6, [.int 0, v2, .int 0])), (h0, .inr (23, [.int 0, .ref h1, .int 20, .int 60, .ref (g 34), v1, .int 0, .int 0, .int 0]))] H := hP
  have hD : va_D A [(h1, .inr (6, [.int 0, v2, .int 0])), (h0, .inr (23, [.int 0, .ref h1, .int 20, .int 60, .ref (g 34), v1, .int 0, .int 0, .int 0]))] := hD
  have hK : va_K (dC, dI) vwCl [] s := hK
  refine W.widen (k := 0) (n := 0) (Nat.le_of_ble_eq_true rfl) (Nat.le_of_ble_eq_true rfl) ?_
  refine lv_if_eq (tgt := 27) hx hb dX16_house_20 (by decide) (fun c2 => ?_) (fun c2 => absurd (by decide) c2)
  refine lv_aload_n hx hb dX16_house_27 rfl (lv_at hl 0 rfl) ?_
  refine lv_iload_n hx hb dX16_house_28 rfl (lv_at hl 1 rfl) ?_
  have hPc := hP.sub (ws' := [(h0, .inr (23, [.int 0, .ref h1, .int 20, .int 60, .ref (g 34), v1, .int 0, .int 0, .int 0])), (h1, .inr (6, [.int 0, v2, .int 0]))]) [1, 0] rfl
  have hDc := hD.sub (ws' := [(h0, .inr (23, [.int 0, .ref h1, .int 20, .int 60, .ref (g 34), v1, .int 0, .int 0, .int 0])), (h1, .inr (6, [.int 0, v2, .int 0]))]) [1, 0] (by decide) rfl
  have hKc := hK.sub (tys' := []) [] rfl
  have hFc := va_free (wc := [(h0, .inr (23, [.int 0, .ref h1, .int 20, .int 60, .ref (g 34), v1, .int 0, .int 0, .int 0])), (h1, .inr (6, [.int 0, v2, .int 0]))]) hD hS hA [1, 0] rfl
  refine va_calli (va_runV (As := [.int 1]) (rest := []) ⟨hx, hb, hml, hown, hts⟩ (kX16_houseTold_2 l dC dI g H.size h0 h1 (.int 0) v1 v2 ) (cwV 1 hts gX16_house_X16_houseTold rfl rfl rfl (by decide +kernel) ⟨Nat.le_of_ble_eq_true rfl, Nat.le_of_ble_eq_true rfl⟩) ⟨fun a U gg mk q => by obtain ⟨q0, q1, qP, qK, qD, qF⟩ := q; exact ⟨q0, q1, qP, va_K.moved (u := U) (U := U.calling gg mk a) (Vm.Alike.refl U.vm) qK, qD, ns_same qF⟩, va_recv hK hP (ci := 23) (q0 := 1) rfl rfl, fun U hU hW => ⟨rfl, by rw [hU], by rw [hU]; exact hPc, va_K.moved hW.alike hKc, hDc.weaken (fun _ _ _ _ => trivial), ns_call hF hS hFc hU hW⟩⟩ rfl rfl hl.1 rfl (lv_room (Nat.le_of_ble_eq_true rfl)) dX16_house_29 ⟨Nat.le_of_ble_eq_true rfl, Nat.le_of_ble_eq_true rfl⟩) hS (fun q _ h => hFc q h) hFc (fun r9 u t H1 locs ht hvm hw hB hz1 hk1 hS => ?_)
  obtain rfl := hw
  obtain ⟨q3, q4, cy5, hP1, hK1, hD1⟩ := hB
  rw [ht] at hP1
  have hK1 := va_K.moved hvm.symm hK1
  obtain ⟨hP, hD⟩ := va_join (wr := []) (w1 := [(h0, .inr (23, [.int 0, .ref h1, .int 20, .int 60, .ref (g 34), v1, .int 0, .int 0, .int 0])), (q3, .inr (5, [.int 0, .int (-1), .int 0, .ref h1])), (q4, .inl (cy5, 8, .inl (upd (upd (upd (upd (upd (upd (upd (upd (fun _ => 0) 0 0) 1 20) 2 60) 3 0) 4 0) 5 0) 6 0) 7 0))), (h1, .inr (6, [.int 0, v2, .int 0]))]) hP hD [1, 0] [] rfl rfl (by decide) (by decide) hk1 hFc hP1 hD1
  have hK := (hK.sub (tys' := []) [] rfl).app hK1
  generalize H1 = H at hP hS ⊢
  have hP : va_P (dC, dI) vwCl [(h0, .inr (23, [.int 0, .ref h1, .int 20, .int 60, .ref (g 34), v1, .int 0, .int 0, .int 0])), (q3, .inr (5, [.int 0, .int (-1), .int 0, .ref h1])), (q4, .inl (cy5, 8, .inl (upd (upd (upd (upd (upd (upd (upd (upd (fun _ => 0) 0 0) 1 20) 2 60) 3 0) 4 0) 5 0) 6 0) 7 0))), (h1, .inr (6, [.int 0, v2, .int 0]))] H := hP
  have hD : va_D A [(h0, .inr (23, [.int 0, .ref h1, .int 20, .int 60, .ref (g 34), v1, .int 0, .int 0, .int 0])), (q3, .inr (5, [.int 0, .int (-1), .int 0, .ref h1])), (q4, .inl (cy5, 8, .inl (upd (upd (upd (upd (upd (upd (upd (upd (fun _ => 0) 0 0) 1 20) 2 60) 3 0) 4 0) 5 0) 6 0) 7 0))), (h1, .inr (6, [.int 0, v2, .int 0]))] := hD
  have hK : va_K (dC, dI) vwCl [(cy5, .int)] s := hK
  refine W.widen (k := 2) (n := 12) (Nat.le_of_ble_eq_true rfl) (Nat.le_of_ble_eq_true rfl) ?_
  have hP9 := hP.sub (ws' := [(h0, .inr (23, [.int 0, .ref h1, .int 20, .int 60, .ref (g 34), v1, .int 0, .int 0, .int 0])), (q3, .inr (5, [.int 0, .int (-1), .int 0, .ref h1])), (q4, .inl (cy5, 8, .inl (upd (upd (upd (upd (upd (upd (upd (upd (fun _ => 0) 0 0) 1 20) 2 60) 3 0) 4 0) 5 0) 6 0) 7 0))), (h1, .inr (6, [.int 0, v2, .int 0]))]) [0, 1, 2, 3] rfl
  have hD9 := hD.sub (ws' := [(h0, .inr (23, [.int 0, .ref h1, .int 20, .int 60, .ref (g 34), v1, .int 0, .int 0, .int 0])), (q3, .inr (5, [.int 0, .int (-1), .int 0, .ref h1])), (q4, .inl (cy5, 8, .inl (upd (upd (upd (upd (upd (upd (upd (upd (fun _ => 0) 0 0) 1 20) 2 60) 3 0) 4 0) 5 0) 6 0) 7 0))), (h1, .inr (6, [.int 0, v2, .int 0]))]) [0, 1, 2, 3] (by decide) rfl
  have hK9 := hK.sub (tys' := [(cy5, .int)]) [0] rfl
  refine W.widen (k := 2) (n := 12) (Nat.le_of_ble_eq_true rfl) (Nat.le_of_ble_eq_true rfl) ?_
  exact W.iret (v := 20) hx hb hr (fun t ht hW => ⟨⟨_, (), rfl, rfl, q3, q4, cy5, by rw [ht]; exact hP9, va_K.moved hW.alike hK9, hD9⟩, hS.F ht⟩) hS.2.2 dX16_house_32
set_option maxHeartbeats 4000000 in
set_option maxRecDepth 100000 in
theorem kX9_stateOf_3 (l : Launch) (dC : Nat → ClassId) (dI : Nat → Nat → Nat) (g : Nat → Nat) (sz : Nat) (h0 : Nat) (v0 : Value) (v1 : Value) (v2 : Value) (v3 : Value) (v4 : Value) (v5 : Value) (v6 : Value) (v7 : Value) (v8 : Value) (v9 : Value) (v10 : Value) (v11 : Value) (v12 : Value) (v13 : Value) (v14 : Value) : Met l yX9_stateOf wsX9_stateOf ({ frames := 0, cells := 0, slots := 0, locals := 0 }) (va_Pc [.ref h0, .int 2] (fun U => U.heap.size = sz ∧ va_P (dC, dI) vwCl [(h0, .inr (16, [v0, v1, v2, v3, v4, v5, v6, v7, v8, v9, v10, v11, .int 60, v12, v13, v14]))] U.heap ∧ va_K (dC, dI) vwCl [] U ∧ va_D (fun _ => True) [(h0, .inr (16, [v0, v1, v2, v3, v4, v5, v6, v7, v8, v9, v10, v11, .int 60, v12, v13, v14]))] ∧ ns_F g (va_A [(h0, .inr (16, [v0, v1, v2, v3, v4, v5, v6, v7, v8, v9, v10, v11, .int 60, v12, v13, v14]))] sz) U U.heap)) (va_Qi (fun (r : Int32) (_ : Unit) => r = 60) (fun _ t => va_P (dC, dI) vwCl [(h0, .inr (16, [v0, v1, v2, v3, v4, v5, v6, v7, v8, v9, v10, v11, .int 60, v12, v13, v14]))] t.heap ∧ va_K (dC, dI) vwCl [] t ∧ va_D (va_A [(h0, .inr (16, [v0, v1, v2, v3, v4, v5, v6, v7, v8, v9, v10, v11, .int 60, v12, v13, v14]))] sz) [(h0, .inr (16, [v0, v1, v2, v3, v4, v5, v6, v7, v8, v9, v10, v11, .int 60, v12, v13, v14]))]) (va_A [(h0, .inr (16, [v0, v1, v2, v3, v4, v5, v6, v7, v8, v9, v10, v11, .int 60, v12, v13, v14]))] sz)) 0 0 (va_A [(h0, .inr (16, [v0, v1, v2, v3, v4, v5, v6, v7, v8, v9, v10, v11, .int 60, v12, v13, v14]))] sz) := by
  refine Met.ofW (cc := cX9_stateOf) (maxL := 2) (ret := (some .int)) (by decide) rfl ?_
  intro p e s m args below meth c s₁ B hml hv
  obtain ⟨rfl, hsz, hP, hK, hD0, hF⟩ := hv
  have hx := B.exec
  have hb := B.bytes
  have hr := B.returns
  have hts := atoms_spec (ws := wsX9_stateOf) B.pre
  have hown : s.vm.findClass RX9 = some m.cls := findClass_of_methodNamed B.named
  have hlocks := B.notSynchronized
  subst hsz
  have hD := hD0.self (sz := s.heap.size)
  generalize hAe : va_A [(h0, .inr (16, [v0, v1, v2, v3, v4, v5, v6, v7, v8, v9, v10, v11, .int 60, v12, v13, v14]))] s.heap.size = A at hD hF ⊢
  have hA : ∀ q : Nat, s.heap.size ≤ q → A q := fun q h => by rw [← hAe]; exact Or.inr h
  have hS : va_S A s.heap s.heap [] := va_S.rf
  have hP : va_P (dC, dI) vwCl [(h0, .inr (16, [v0, v1, v2, v3, v4, v5, v6, v7, v8, v9, v10, v11, .int 60, v12, v13, v14]))] s.heap := hP
  have hl := lv_entry ([.ref h0, .int 2]) (n := 2) (Nat.le_of_ble_eq_true rfl)
  rw [lg_entry_eq]
  generalize (lg_sl ([.ref h0, .int 2]) ++ List.replicate (2 - (lg_sl ([.ref h0, .int 2])).length) Slot.unset).toArray = ls at hl ⊢
  have hl : lv_has ls 2 [(0, .ref h0), (1, .int 2)] := hl
  refine lv_iload_n hx hb dX9_stateOf_0 rfl (lv_at hl 1 rfl) ?_
  refine lv_tableIn (off := 56) (tgt := 57) hx hb dX9_stateOf_1 (by decide) (by decide) (by decide) (by decide) ?_
  refine lv_aload_n hx hb dX9_stateOf_57 rfl (lv_at hl 0 rfl) ?_
  refine va_get (D := (dC, dI)) (ci := 16) (v := .int 60) (C := RX9) (T := TX9) (N := 16) hx hb hts (by decide +kernel) hown hK hP 0 rfl rfl 12 (by decide) (hts (.fieldLink RX9 88 "Nestprint" "ribbon" "I") (by decide +kernel)) (fun _ h9 => h9) rfl dX9_stateOf_58 ?_
  have hP9 := hP.sub (ws' := [(h0, .inr (16, [v0, v1, v2, v3, v4, v5, v6, v7, v8, v9, v10, v11, .int 60, v12, v13, v14]))]) [0] rfl
  have hD9 := hD.sub (ws' := [(h0, .inr (16, [v0, v1, v2, v3, v4, v5, v6, v7, v8, v9, v10, v11, .int 60, v12, v13, v14]))]) [0] (by decide) rfl
  have hK9 := hK.sub (tys' := []) [] rfl
  refine W.widen (k := 0) (n := 0) (Nat.le_of_ble_eq_true rfl) (Nat.le_of_ble_eq_true rfl) ?_
  exact W.iret (v := 60) hx hb hr (fun t ht hW => ⟨⟨_, (), rfl, rfl, by rw [ht]; exact hP9, va_K.moved hW.alike hK9, hD9⟩, hS.F ht⟩) hS.2.2 dX9_stateOf_61
set_option maxHeartbeats 4000000 in
set_option maxRecDepth 100000 in
theorem kX9_house_4 (l : Launch) (dC : Nat → ClassId) (dI : Nat → Nat → Nat) (g : Nat → Nat) (sz : Nat) (h0 : Nat) (v0 : Value) (v1 : Value) (v2 : Value) (v3 : Value) (v4 : Value) (v5 : Value) (v6 : Value) (v7 : Value) (v8 : Value) (v9 : Value) (v10 : Value) (v11 : Value) (v12 : Value) (v13 : Value) (v14 : Value) : Met l yX9_house wsX9_house ({ frames := 1, cells := 0, slots := 0, locals := 21 }) (va_Pc [.ref h0, .int 2] (fun U => U.heap.size = sz ∧ va_P (dC, dI) vwCl [(h0, .inr (16, [v0, v1, v2, v3, v4, v5, v6, v7, v8, v9, v10, v11, .int 60, v12, v13, v14]))] U.heap ∧ va_K (dC, dI) vwCl [] U ∧ va_D (fun _ => True) [(h0, .inr (16, [v0, v1, v2, v3, v4, v5, v6, v7, v8, v9, v10, v11, .int 60, v12, v13, v14]))] ∧ ns_F g (va_A [(h0, .inr (16, [v0, v1, v2, v3, v4, v5, v6, v7, v8, v9, v10, v11, .int 60, v12, v13, v14]))] sz) U U.heap)) (va_Qi (fun (r : Int32) (_ : Unit) => r = 60) (fun _ t => va_P (dC, dI) vwCl [(h0, .inr (16, [v0, v1, v2, v3, v4, v5, v6, v7, v8, v9, v10, v11, .int 60, v12, v13, v14]))] t.heap ∧ va_K (dC, dI) vwCl [] t ∧ va_D (va_A [(h0, .inr (16, [v0, v1, v2, v3, v4, v5, v6, v7, v8, v9, v10, v11, .int 60, v12, v13, v14]))] sz) [(h0, .inr (16, [v0, v1, v2, v3, v4, v5, v6, v7, v8, v9, v10, v11, .int 60, v12, v13, v14]))]) (va_A [(h0, .inr (16, [v0, v1, v2, v3, v4, v5, v6, v7, v8, v9, v10, v11, .int 60, v12, v13, v14]))] sz)) 0 0 (va_A [(h0, .inr (16, [v0, v1, v2, v3, v4, v5, v6, v7, v8, v9, v10, v11, .int 60, v12, v13, v14]))] sz) := by
  refine Met.ofW (cc := cX9_house) (maxL := 2) (ret := (some .int)) (by decide) rfl ?_
  intro p e s m args below meth c s₁ B hml hv
  obtain ⟨rfl, hsz, hP, hK, hD0, hF⟩ := hv
  have hx := B.exec
  have hb := B.bytes
  have hr := B.returns
  have hts := atoms_spec (ws := wsX9_house) B.pre
  have hown : s.vm.findClass RX9 = some m.cls := findClass_of_methodNamed B.named
  have hlocks := B.notSynchronized
  subst hsz
  have hD := hD0.self (sz := s.heap.size)
  generalize hAe : va_A [(h0, .inr (16, [v0, v1, v2, v3, v4, v5, v6, v7, v8, v9, v10, v11, .int 60, v12, v13, v14]))] s.heap.size = A at hD hF ⊢
  have hA : ∀ q : Nat, s.heap.size ≤ q → A q := fun q h => by rw [← hAe]; exact Or.inr h
  have hS : va_S A s.heap s.heap [] := va_S.rf
  have hP : va_P (dC, dI) vwCl [(h0, .inr (16, [v0, v1, v2, v3, v4, v5, v6, v7, v8, v9, v10, v11, .int 60, v12, v13, v14]))] s.heap := hP
  have hl := lv_entry ([.ref h0, .int 2]) (n := 2) (Nat.le_of_ble_eq_true rfl)
  rw [lg_entry_eq]
  generalize (lg_sl ([.ref h0, .int 2]) ++ List.replicate (2 - (lg_sl ([.ref h0, .int 2])).length) Slot.unset).toArray = ls at hl ⊢
  have hl : lv_has ls 2 [(0, .ref h0), (1, .int 2)] := hl
  refine lv_iload_n hx hb dX9_house_0 rfl (lv_at hl 1 rfl) ?_
  refine lv_if_lt (tgt := 10) hx hb dX9_house_1 (by decide) (fun c1 => absurd c1 (by decide)) (fun c1 => ?_)
  refine lv_iload_n hx hb dX9_house_4 rfl (lv_at hl 1 rfl) ?_
  refine lv_bipush (v := 7) hx hb dX9_house_5 (by decide) ?_
  refine lv_icmp_le (tgt := 20) hx hb dX9_house_7 (by decide) (fun c2 => ?_) (fun c2 => absurd (by decide) c2)
  refine lv_aload_n hx hb dX9_house_20 rfl (lv_at hl 0 rfl) ?_
  refine lv_iload_n hx hb dX9_house_21 rfl (lv_at hl 1 rfl) ?_
  have hPc := hP.sub (ws' := [(h0, .inr (16, [v0, v1, v2, v3, v4, v5, v6, v7, v8, v9, v10, v11, .int 60, v12, v13, v14]))]) [0] rfl
  have hDc := hD.sub (ws' := [(h0, .inr (16, [v0, v1, v2, v3, v4, v5, v6, v7, v8, v9, v10, v11, .int 60, v12, v13, v14]))]) [0] (by decide) rfl
  have hKc := hK.sub (tys' := []) [] rfl
  have hFc := va_free (wc := [(h0, .inr (16, [v0, v1, v2, v3, v4, v5, v6, v7, v8, v9, v10, v11, .int 60, v12, v13, v14]))]) hD hS hA [0] rfl
  refine va_calli (va_runV (As := [.int 2]) (rest := []) ⟨hx, hb, hml, hown, hts⟩ (kX9_stateOf_3 l dC dI g s.heap.size h0 v0 v1 v2 v3 v4 v5 v6 v7 v8 v9 v10 v11 v12 v13 v14 ) (cwV 1 hts gX9_house_X9_stateOf rfl rfl rfl (by decide +kernel) ⟨Nat.le_of_ble_eq_true rfl, Nat.le_of_ble_eq_true rfl⟩) ⟨fun a U gg mk q => by obtain ⟨q0, q1, qP, qK, qD, qF⟩ := q; exact ⟨q0, q1, qP, va_K.moved (u := U) (U := U.calling gg mk a) (Vm.Alike.refl U.vm) qK, qD, ns_same qF⟩, va_recv hK hP (ci := 16) (q0 := 0) rfl rfl, fun U hU hW => ⟨rfl, by rw [hU], by rw [hU]; exact hPc, va_K.moved hW.alike hKc, hDc.weaken (fun _ _ _ _ => trivial), ns_call hF hS hFc hU hW⟩⟩ rfl rfl hl.1 rfl (lv_room (Nat.le_of_ble_eq_true rfl)) dX9_house_22 ⟨Nat.le_of_ble_eq_true rfl, Nat.le_of_ble_eq_true rfl⟩) hS (fun q _ h => hFc q h) hFc (fun r9 u t H1 locs ht hvm hw hB hz1 hk1 hS => ?_)
  obtain rfl := hw
  obtain ⟨hP1, hK1, hD1⟩ := hB
  rw [ht] at hP1
  have hK1 := va_K.moved hvm.symm hK1
  obtain ⟨hP, hD⟩ := va_join (wr := []) (w1 := [(h0, .inr (16, [v0, v1, v2, v3, v4, v5, v6, v7, v8, v9, v10, v11, .int 60, v12, v13, v14]))]) hP hD [0] [] rfl rfl (by decide) (by decide) hk1 hFc hP1 hD1
  have hK := (hK.sub (tys' := []) [] rfl).app hK1
  generalize H1 = H at hP hS ⊢
  have hP : va_P (dC, dI) vwCl [(h0, .inr (16, [v0, v1, v2, v3, v4, v5, v6, v7, v8, v9, v10, v11, .int 60, v12, v13, v14]))] H := hP
  have hD : va_D A [(h0, .inr (16, [v0, v1, v2, v3, v4, v5, v6, v7, v8, v9, v10, v11, .int 60, v12, v13, v14]))] := hD
  have hK : va_K (dC, dI) vwCl [] s := hK
  refine W.widen (k := 0) (n := 0) (Nat.le_of_ble_eq_true rfl) (Nat.le_of_ble_eq_true rfl) ?_
  have hP9 := hP.sub (ws' := [(h0, .inr (16, [v0, v1, v2, v3, v4, v5, v6, v7, v8, v9, v10, v11, .int 60, v12, v13, v14]))]) [0] rfl
  have hD9 := hD.sub (ws' := [(h0, .inr (16, [v0, v1, v2, v3, v4, v5, v6, v7, v8, v9, v10, v11, .int 60, v12, v13, v14]))]) [0] (by decide) rfl
  have hK9 := hK.sub (tys' := []) [] rfl
  refine W.widen (k := 0) (n := 0) (Nat.le_of_ble_eq_true rfl) (Nat.le_of_ble_eq_true rfl) ?_
  exact W.iret (v := 60) hx hb hr (fun t ht hW => ⟨⟨_, (), rfl, rfl, by rw [ht]; exact hP9, va_K.moved hW.alike hK9, hD9⟩, hS.F ht⟩) hS.2.2 dX9_house_25
set_option maxHeartbeats 4000000 in
set_option maxRecDepth 100000 in
theorem kL_house_4 (l : Launch) (dC : Nat → ClassId) (dI : Nat → Nat → Nat) (g : Nat → Nat) (sz : Nat) (h0 : Nat) (h1 : Nat) (v0 : Value) (v1 : Value) (v2 : Value) (v3 : Value) (v4 : Value) (v5 : Value) (v6 : Value) (v7 : Value) (v8 : Value) (v9 : Value) (v10 : Value) (v11 : Value) (v12 : Value) (v13 : Value) (v14 : Value) (v15 : Value) (v16 : Value) : Met l yL_house wsL_house ({ frames := 2, cells := 0, slots := 0, locals := 42 }) (va_Pc [.ref h0, .int 2, .ref h1] (fun U => U.heap.size = sz ∧ va_P (dC, dI) vwCl [(h0, .inr (16, [v0, v1, v2, v3, v4, v5, v6, v7, v8, v9, v10, v11, .int 60, v12, v13, v14])), (h1, .inr (17, [v15, v16]))] U.heap ∧ va_K (dC, dI) vwCl [] U ∧ va_D (fun _ => True) [(h0, .inr (16, [v0, v1, v2, v3, v4, v5, v6, v7, v8, v9, v10, v11, .int 60, v12, v13, v14])), (h1, .inr (17, [v15, v16]))] ∧ ns_F g (va_A [(h0, .inr (16, [v0, v1, v2, v3, v4, v5, v6, v7, v8, v9, v10, v11, .int 60, v12, v13, v14])), (h1, .inr (17, [v15, v16]))] sz) U U.heap)) (va_Qi (fun (r : Int32) (_ : Unit) => r = 0) (fun _ t => va_P (dC, dI) vwCl [(h1, .inr (17, [.long 60, v16])), (h0, .inr (16, [v0, v1, v2, v3, v4, v5, v6, v7, v8, v9, v10, v11, .int 60, v12, v13, v14]))] t.heap ∧ va_K (dC, dI) vwCl [] t ∧ va_D (va_A [(h0, .inr (16, [v0, v1, v2, v3, v4, v5, v6, v7, v8, v9, v10, v11, .int 60, v12, v13, v14])), (h1, .inr (17, [v15, v16]))] sz) [(h1, .inr (17, [.long 60, v16])), (h0, .inr (16, [v0, v1, v2, v3, v4, v5, v6, v7, v8, v9, v10, v11, .int 60, v12, v13, v14]))]) (va_A [(h0, .inr (16, [v0, v1, v2, v3, v4, v5, v6, v7, v8, v9, v10, v11, .int 60, v12, v13, v14])), (h1, .inr (17, [v15, v16]))] sz)) 0 0 (va_A [(h0, .inr (16, [v0, v1, v2, v3, v4, v5, v6, v7, v8, v9, v10, v11, .int 60, v12, v13, v14])), (h1, .inr (17, [v15, v16]))] sz) := by
  refine va_MetW (cc := cL_house) (maxL := 4) (ret := (some .int)) (hh := [(0, 10, 13, 19)]) (by decide) rfl ?_
  intro p e s m args below meth c s₁ B hml hv
  obtain ⟨rfl, hsz, hP, hK, hD0, hF⟩ := hv
  have hx := B.exec
  have hb := B.bytes
  have hr := B.returns
  have hts := atoms_spec (ws := wsL_house) B.pre
  have hown : s.vm.findClass RL = some m.cls := findClass_of_methodNamed B.named
  have hlocks := B.notSynchronized
  have htab : c.exceptionTable.toList = [⟨0, 10, 13, 19⟩] := vx_table B (hts _ List.mem_cons_self)
  subst hsz
  have hD := hD0.self (sz := s.heap.size)
  generalize hAe : va_A [(h0, .inr (16, [v0, v1, v2, v3, v4, v5, v6, v7, v8, v9, v10, v11, .int 60, v12, v13, v14])), (h1, .inr (17, [v15, v16]))] s.heap.size = A at hD hF ⊢
  have hA : ∀ q : Nat, s.heap.size ≤ q → A q := fun q h => by rw [← hAe]; exact Or.inr h
  have hS : va_S A s.heap s.heap [] := va_S.rf
  have hP : va_P (dC, dI) vwCl [(h0, .inr (16, [v0, v1, v2, v3, v4, v5, v6, v7, v8, v9, v10, v11, .int 60, v12, v13, v14])), (h1, .inr (17, [v15, v16]))] s.heap := hP
  have hl := lv_entry ([.ref h0, .int 2, .ref h1]) (n := 4) (Nat.le_of_ble_eq_true rfl)
  rw [lg_entry_eq]
  generalize (lg_sl ([.ref h0, .int 2, .ref h1]) ++ List.replicate (4 - (lg_sl ([.ref h0, .int 2, .ref h1])).length) Slot.unset).toArray = ls at hl ⊢
  have hl : lv_has ls 4 [(0, .ref h0), (1, .int 2), (2, .ref h1)] := hl
  refine lv_aload_n hx hb dL_house_0 rfl (lv_at hl 2 rfl) ?_
  refine lv_aload_n hx hb dL_house_1 rfl (lv_at hl 0 rfl) ?_
  refine lv_iload_n hx hb dL_house_2 rfl (lv_at hl 1 rfl) ?_
  have hPc := hP.sub (ws' := [(h0, .inr (16, [v0, v1, v2, v3, v4, v5, v6, v7, v8, v9, v10, v11, .int 60, v12, v13, v14]))]) [0] rfl
  have hDc := hD.sub (ws' := [(h0, .inr (16, [v0, v1, v2, v3, v4, v5, v6, v7, v8, v9, v10, v11, .int 60, v12, v13, v14]))]) [0] (by decide) rfl
  have hKc := hK.sub (tys' := []) [] rfl
  have hFc := va_free (wc := [(h0, .inr (16, [v0, v1, v2, v3, v4, v5, v6, v7, v8, v9, v10, v11, .int 60, v12, v13, v14]))]) hD hS hA [0] rfl
  refine va_calli (va_runV (As := [.int 2]) (rest := [.ref h1]) ⟨hx, hb, hml, hown, hts⟩ (kX9_house_4 l dC dI g s.heap.size h0 v0 v1 v2 v3 v4 v5 v6 v7 v8 v9 v10 v11 v12 v13 v14 ) (cwV 1 hts gL_house_X9_house rfl rfl rfl (by decide +kernel) ⟨Nat.le_of_ble_eq_true rfl, Nat.le_of_ble_eq_true rfl⟩) ⟨fun a U gg mk q => by obtain ⟨q0, q1, qP, qK, qD, qF⟩ := q; exact ⟨q0, q1, qP, va_K.moved (u := U) (U := U.calling gg mk a) (Vm.Alike.refl U.vm) qK, qD, ns_same qF⟩, va_recv hK hP (ci := 16) (q0 := 0) rfl rfl, fun U hU hW => ⟨rfl, by rw [hU], by rw [hU]; exact hPc, va_K.moved hW.alike hKc, hDc.weaken (fun _ _ _ _ => trivial), ns_call hF hS hFc hU hW⟩⟩ rfl rfl hl.1 rfl (lv_room (Nat.le_of_ble_eq_true rfl)) dL_house_3 ⟨Nat.le_of_ble_eq_true rfl, Nat.le_of_ble_eq_true rfl⟩) hS (fun q _ h => hFc q h) hFc (fun r9 u t H1 locs ht hvm hw hB hz1 hk1 hS => ?_)
  obtain rfl := hw
  obtain ⟨hP1, hK1, hD1⟩ := hB
  rw [ht] at hP1
  have hK1 := va_K.moved hvm.symm hK1
  obtain ⟨hP, hD⟩ := va_join (wr := [(h1, .inr (17, [v15, v16]))]) (w1 := [(h0, .inr (16, [v0, v1, v2, v3, v4, v5, v6, v7, v8, v9, v10, v11, .int 60, v12, v13, v14]))]) hP hD [0] [1] rfl rfl (by decide) (by decide) hk1 hFc hP1 hD1
  have hK := (hK.sub (tys' := []) [] rfl).app hK1
  generalize H1 = H at hP hS ⊢
  have hP : va_P (dC, dI) vwCl [(h1, .inr (17, [v15, v16])), (h0, .inr (16, [v0, v1, v2, v3, v4, v5, v6, v7, v8, v9, v10, v11, .int 60, v12, v13, v14]))] H := hP
  have hD : va_D A [(h1, .inr (17, [v15, v16])), (h0, .inr (16, [v0, v1, v2, v3, v4, v5, v6, v7, v8, v9, v10, v11, .int 60, v12, v13, v14]))] := hD
  have hK : va_K (dC, dI) vwCl [] s := hK
  refine W.widen (k := 0) (n := 0) (Nat.le_of_ble_eq_true rfl) (Nat.le_of_ble_eq_true rfl) ?_
  refine lv_i2l (v := 60) hx hb dL_house_6 (by decide) ?_
  refine va_putN (D := (dC, dI)) (ci := 17) (v := .long 60) (ty := .long) (C := RX10) (T := TX10) (N := 2) hx hb hts (by decide +kernel) tyX10 tyX10_ok nmX10 hown hK hP hD hS 0 rfl rfl 0 (by decide) (va_Nw.use rfl (ns_f7 hF)) (fun _ h9 => h9) rfl (by decide +kernel) rfl rfl (Nat.le_of_ble_eq_true rfl) dL_house_7 (fun H locs hP hD hS => ?_)
  have hP : va_P (dC, dI) vwCl [(h1, .inr (17, [.long 60, v16])), (h0, .inr (16, [v0, v1, v2, v3, v4, v5, v6, v7, v8, v9, v10, v11, .int 60, v12, v13, v14]))] H := hP
  have hD : va_D A [(h1, .inr (17, [.long 60, v16])), (h0, .inr (16, [v0, v1, v2, v3, v4, v5, v6, v7, v8, v9, v10, v11, .int 60, v12, v13, v14]))] := hD
  refine lv_goto (tgt := 16) hx hb dL_house_10 (by decide) ?_
  refine lv_iconst (v := 0) hx hb dL_house_16 (by decide) ?_
  have hP9 := hP.sub (ws' := [(h1, .inr (17, [.long 60, v16])), (h0, .inr (16, [v0, v1, v2, v3, v4, v5, v6, v7, v8, v9, v10, v11, .int 60, v12, v13, v14]))]) [0, 1] rfl
  have hD9 := hD.sub (ws' := [(h1, .inr (17, [.long 60, v16])), (h0, .inr (16, [v0, v1, v2, v3, v4, v5, v6, v7, v8, v9, v10, v11, .int 60, v12, v13, v14]))]) [0, 1] (by decide) rfl
  have hK9 := hK.sub (tys' := []) [] rfl
  refine W.widen (k := 0) (n := 0) (Nat.le_of_ble_eq_true rfl) (Nat.le_of_ble_eq_true rfl) ?_
  exact W.iret (v := 0) hx hb hr (fun t ht hW => ⟨⟨_, (), rfl, rfl, by rw [ht]; exact hP9, va_K.moved hW.alike hK9, hD9⟩, hS.F ht⟩) hS.2.2 dL_house_17
set_option maxHeartbeats 4000000 in
set_option maxRecDepth 100000 in
theorem kX16_isIn_18 (l : Launch) (dC : Nat → ClassId) (dI : Nat → Nat → Nat) (g : Nat → Nat) (sz : Nat)  : Met l yX16_isIn wsX16_isIn ({ frames := 0, cells := 0, slots := 0, locals := 0 }) (va_Pc [.int 2, .int 0, .int 7] (fun U => U.heap.size = sz ∧ va_P (dC, dI) vwCl [] U.heap ∧ va_K (dC, dI) vwCl [] U ∧ va_D (fun _ => True) [] ∧ ns_F g (va_A [] sz) U U.heap)) (va_Qi (fun (r : Int32) (_ : Unit) => r = 1) (fun _ t => va_P (dC, dI) vwCl [] t.heap ∧ va_K (dC, dI) vwCl [] t ∧ va_D (va_A [] sz) []) (va_A [] sz)) 0 0 (va_A [] sz) := by
  refine Met.ofW (cc := cX16_isIn) (maxL := 3) (ret := (some .boolean)) (by decide) rfl ?_
  intro p e s m args below meth c s₁ B hml hv
  obtain ⟨rfl, hsz, hP, hK, hD0, hF⟩ := hv
  have hx := B.exec
  have hb := B.bytes
  have hr := B.returns
  have hts := atoms_spec (ws := wsX16_isIn) B.pre
  have hown : s.vm.findClass RX16 = some m.cls := findClass_of_methodNamed B.named
  have hlocks := B.notSynchronized
  subst hsz
  have hD := hD0.self (sz := s.heap.size)
  generalize hAe : va_A [] s.heap.size = A at hD hF ⊢
  have hA : ∀ q : Nat, s.heap.size ≤ q → A q := fun q h => by rw [← hAe]; exact Or.inr h
  have hS : va_S A s.heap s.heap [] := va_S.rf
  have hP : va_P (dC, dI) vwCl [] s.heap := hP
  have hl := lv_entry ([.int 2, .int 0, .int 7]) (n := 3) (Nat.le_of_ble_eq_true rfl)
  rw [lg_entry_eq]
  generalize (lg_sl ([.int 2, .int 0, .int 7]) ++ List.replicate (3 - (lg_sl ([.int 2, .int 0, .int 7])).length) Slot.unset).toArray = ls at hl ⊢
  have hl : lv_has ls 3 [(0, .int 2), (1, .int 0), (2, .int 7)] := hl
  refine lv_iload_n hx hb dX16_isIn_0 rfl (lv_at hl 0 rfl) ?_
  refine lv_iload_n hx hb dX16_isIn_1 rfl (lv_at hl 1 rfl) ?_
  refine lv_icmp_lt (tgt := 14) hx hb dX16_isIn_2 (by decide) (fun c1 => absurd c1 (by decide)) (fun c1 => ?_)
  refine lv_iload_n hx hb dX16_isIn_5 rfl (lv_at hl 0 rfl) ?_
  refine lv_iload_n hx hb dX16_isIn_6 rfl (lv_at hl 2 rfl) ?_
  refine lv_icmp_gt (tgt := 14) hx hb dX16_isIn_7 (by decide) (fun c2 => absurd c2 (by decide)) (fun c2 => ?_)
  refine lv_iconst (v := 1) hx hb dX16_isIn_10 (by decide) ?_
  refine lv_goto (tgt := 15) hx hb dX16_isIn_11 (by decide) ?_
  have hP9 := hP.sub (ws' := []) [] rfl
  have hD9 := hD.sub (ws' := []) [] (by decide) rfl
  have hK9 := hK.sub (tys' := []) [] rfl
  refine W.widen (k := 0) (n := 0) (Nat.le_of_ble_eq_true rfl) (Nat.le_of_ble_eq_true rfl) ?_
  exact W.zret (v := 1) hx hb hr (by decide) (fun t ht hW => ⟨⟨_, (), rfl, rfl, by rw [ht]; exact hP9, va_K.moved hW.alike hK9, hD9⟩, hS.F ht⟩) hS.2.2 dX16_isIn_15
set_option maxHeartbeats 4000000 in
set_option maxRecDepth 100000 in
theorem kX16_houseTold_3 (l : Launch) (dC : Nat → ClassId) (dI : Nat → Nat → Nat) (g : Nat → Nat) (sz : Nat) (h0 : Nat) (h1 : Nat) (v0 : Value) (v1 : Value) (v2 : Value) : Met l yX16_houseTold wsX16_houseTold ({ frames := 3, cells := 2, slots := 12, locals := 53 }) (va_Pc [.ref h0, .int 2] (fun U => U.heap.size = sz ∧ va_P (dC, dI) vwCl [(h0, .inr (23, [v0, .ref h1, .int 20, .int 60, .ref (g 34), v1, .int 0, .int 0, .int 0])), (h1, .inr (6, [.int 0, v2, .int 0]))] U.heap ∧ va_K (dC, dI) vwCl [] U ∧ va_D (fun _ => True) [(h0, .inr (23, [v0, .ref h1, .int 20, .int 60, .ref (g 34), v1, .int 0, .int 0, .int 0])), (h1, .inr (6, [.int 0, v2, .int 0]))] ∧ ns_F g (va_A [(h0, .inr (23, [v0, .ref h1, .int 20, .int 60, .ref (g 34), v1, .int 0, .int 0, .int 0])), (h1, .inr (6, [.int 0, v2, .int 0]))] sz) U U.heap)) (va_Qi (fun (r : Int32) (_ : Unit) => r = 60) (fun _ t => ∃ k0 : Nat, ∃ k1 : Nat, ∃ kc2 : ClassId, va_P (dC, dI) vwCl [(h0, .inr (23, [v0, .ref h1, .int 20, .int 60, .ref (g 34), v1, .int 0, .int 0, .int 0])), (k0, .inr (5, [.int 0, .int (-1), .int 0, .ref h1])), (k1, .inl (kc2, 8, .inl (upd (upd (upd (upd (upd (upd (upd (upd (fun _ => 0) 0 0) 1 20) 2 60) 3 0) 4 0) 5 0) 6 0) 7 0))), (h1, .inr (6, [.int 0, v2, .int 0]))] t.heap ∧ va_K (dC, dI) vwCl [(kc2, .int)] t ∧ va_D (va_A [(h0, .inr (23, [v0, .ref h1, .int 20, .int 60, .ref (g 34), v1, .int 0, .int 0, .int 0])), (h1, .inr (6, [.int 0, v2, .int 0]))] sz) [(h0, .inr (23, [v0, .ref h1, .int 20, .int 60, .ref (g 34), v1, .int 0, .int 0, .int 0])), (k0, .inr (5, [.int 0, .int (-1), .int 0, .ref h1])), (k1, .inl (kc2, 8, .inl (upd (upd (upd (upd (upd (upd (upd (upd (fun _ => 0) 0 0) 1 20) 2 60) 3 0) 4 0) 5 0) 6 0) 7 0))), (h1, .inr (6, [.int 0, v2, .int 0]))]) (va_A [(h0, .inr (23, [v0, .ref h1, .int 20, .int 60, .ref (g 34), v1, .int 0, .int 0, .int 0])), (h1, .inr (6, [.int 0, v2, .int 0]))] sz)) 2 12 (va_A [(h0, .inr (23, [v0, .ref h1, .int 20, .int 60, .ref (g 34), v1, .int 0, .int 0, .int 0])), (h1, .inr (6, [.int 0, v2, .int 0]))] sz) := by
  refine Met.ofW (cc := cX16_houseTold) (maxL := 5) (ret := (some .int)) (by decide) rfl ?_
  intro p e s m args below meth c s₁ B hml hv
  obtain ⟨rfl, hsz, hP, hK, hD0, hF⟩ := hv
  have hx := B.exec
  have hb := B.bytes
  have hr := B.returns
  have hts := atoms_spec (ws := wsX16_houseTold) B.pre
  have hown : s.vm.findClass RX16 = some m.cls := findClass_of_methodNamed B.named
  have hlocks := B.notSynchronized
  subst hsz
  have hD := hD0.self (sz := s.heap.size)
  generalize hAe : va_A [(h0, .inr (23, [v0, .ref h1, .int 20, .int 60, .ref (g 34), v1, .int 0, .int 0, .int 0])), (h1, .inr (6, [.int 0, v2, .int 0]))] s.heap.size = A at hD hF ⊢
  have hA : ∀ q : Nat, s.heap.size ≤ q → A q := fun q h => by rw [← hAe]; exact Or.inr h
  have hS : va_S A s.heap s.heap [] := va_S.rf
  have hP : va_P (dC, dI) vwCl [(h0, .inr (23, [v0, .ref h1, .int 20, .int 60, .ref (g 34), v1, .int 0, .int 0, .int 0])), (h1, .inr (6, [.int 0, v2, .int 0]))] s.heap := hP
  have hl := lv_entry ([.ref h0, .int 2]) (n := 5) (Nat.le_of_ble_eq_true rfl)
  rw [lg_entry_eq]
  generalize (lg_sl ([.ref h0, .int 2]) ++ List.replicate (5 - (lg_sl ([.ref h0, .int 2])).length) Slot.unset).toArray = ls at hl ⊢
  have hl : lv_has ls 5 [(0, .ref h0), (1, .int 2)] := hl
  refine lv_iconst (v := 0) hx hb dX16_houseTold_0 (by decide) ?_
  refine lv_istore_n (lv' := [(2, .int 0), (0, .ref h0), (1, .int 2)]) hx hb dX16_houseTold_1 rfl hl (by decide) rfl (fun ls hl => ?_)
  refine lv_aload_n hx hb dX16_houseTold_2 rfl (lv_at hl 1 rfl) ?_
  refine va_get (D := (dC, dI)) (ci := 23) (v := .ref h1) (C := RX16) (T := TX16) (N := 9) hx hb hts (by decide +kernel) hown hK hP 0 rfl rfl 1 (by decide) (hts (.fieldLink RX16 10 "NestprintModel" "nodes" "Ljava/util/ArrayList;") (by decide +kernel)) (fun _ h9 => h9) rfl dX16_houseTold_3 ?_
  have hPc := hP.sub (ws' := [(h1, .inr (6, [.int 0, v2, .int 0]))]) [1] rfl
  have hDc := hD.sub (ws' := [(h1, .inr (6, [.int 0, v2, .int 0]))]) [1] (by decide) rfl
  have hKc := hK.sub (tys' := []) [] rfl
  have hFc := va_free (wc := [(h1, .inr (6, [.int 0, v2, .int 0]))]) hD hS hA [1] rfl
  refine va_callr (va_runV (As := []) (rest := []) ⟨hx, hb, hml, hown, hts⟩ (kJx4a65c_iterator_32c93 l dC dI g s.heap.size h1 v2 (.int 0) ) (cwV 0 hts gX16_houseTold_Jx4a65c_iterator_32c93 rfl rfl rfl (by decide +kernel) ⟨Nat.le_of_ble_eq_true rfl, Nat.le_of_ble_eq_true rfl⟩) ⟨fun a U gg mk q => by obtain ⟨q0, q1, qP, qK, qD, qF⟩ := q; exact ⟨q0, q1, qP, va_K.moved (u := U) (U := U.calling gg mk a) (Vm.Alike.refl U.vm) qK, qD, ns_same qF⟩, va_recv hK hP (ci := 6) (q0 := 1) rfl rfl, fun U hU hW => ⟨rfl, by rw [hU], by rw [hU]; exact hPc, va_K.moved hW.alike hKc, hDc.weaken (fun _ _ _ _ => trivial), ns_call hF hS hFc hU hW⟩⟩ rfl rfl hl.1 rfl (lv_room (Nat.le_of_ble_eq_true rfl)) dX16_houseTold_6 ⟨Nat.le_of_ble_eq_true rfl, Nat.le_of_ble_eq_true rfl⟩) hS (fun q _ h => hFc q h) hFc (fun u r9 t H1 locs ht hvm hw hB hz1 hk1 hS => ?_)
  obtain ⟨q1, rfl, hP1, hK1, hD1⟩ := hB
  rw [ht] at hP1
  have hK1 := va_K.moved hvm.symm hK1
  obtain ⟨hP, hD⟩ := va_join (wr := [(h0, .inr (23, [v0, .ref h1, .int 20, .int 60, .ref (g 34), v1, .int 0, .int 0, .int 0]))]) (w1 := [(q1, .inr (5, [.int 0, .int (-1), .int 0, .ref h1])), (h1, .inr (6, [.int 0, v2, .int 0]))]) hP hD [1] [0] rfl rfl (by decide) (by decide) hk1 hFc hP1 hD1
  have hK := (hK.sub (tys' := []) [] rfl).app hK1
  generalize H1 = H at hP hS ⊢
  have hP : va_P (dC, dI) vwCl [(h0, .inr (23, [v0, .ref h1, .int 20, .int 60, .ref (g 34), v1, .int 0, .int 0, .int 0])), (q1, .inr (5, [.int 0, .int (-1), .int 0, .ref h1])), (h1, .inr (6, [.int 0, v2, .int 0]))] H := hP
  have hD : va_D A [(h0, .inr (23, [v0, .ref h1, .int 20, .int 60, .ref (g 34), v1, .int 0, .int 0, .int 0])), (q1, .inr (5, [.int 0, .int (-1), .int 0, .ref h1])), (h1, .inr (6, [.int 0, v2, .int 0]))] := hD
  have hK : va_K (dC, dI) vwCl [] s := hK
  refine W.widen (k := 1) (n := 4) (Nat.le_of_ble_eq_true rfl) (Nat.le_of_ble_eq_true rfl) ?_
  refine lv_astore_n (lv' := [(3, .ref q1), (2, .int 0), (0, .ref h0), (1, .int 2)]) hx hb dX16_houseTold_9 rfl hl (by decide) rfl (fun ls hl => ?_)
  refine lv_aload_n hx hb dX16_houseTold_10 rfl (lv_at hl 0 rfl) ?_
  have hPc := hP.sub (ws' := [(q1, .inr (5, [.int 0, .int (-1), .int 0, .ref h1])), (h1, .inr (6, [.int 0, v2, .int 0]))]) [1, 2] rfl
  have hDc := hD.sub (ws' := [(q1, .inr (5, [.int 0, .int (-1), .int 0, .ref h1])), (h1, .inr (6, [.int 0, v2, .int 0]))]) [1, 2] (by decide) rfl
  have hKc := hK.sub (tys' := []) [] rfl
  have hFc := va_free (wc := [(q1, .inr (5, [.int 0, .int (-1), .int 0, .ref h1])), (h1, .inr (6, [.int 0, v2, .int 0]))]) hD hS hA [1, 2] rfl
  refine va_callFi (va_runF (hK.1 5 _ rfl).2 (As := []) (rest := []) ⟨hx, hb, hml, hown, hts⟩ (kJx35411_hasNext_aae02 l dC dI g H.size q1 h1 (.int (-1)) (.int 0) (.int 0) v2 ) (va_cwF 0 hts gX16_houseTold_Jx35411_hasNext_aae02_f133Jx35411 rfl rfl rfl (ns_f51 hF) (by decide +kernel) ⟨Nat.le_of_ble_eq_true rfl, Nat.le_of_ble_eq_true rfl⟩) ⟨fun a U gg mk q => by obtain ⟨q0, q1, qP, qK, qD, qF⟩ := q; exact ⟨q0, q1, qP, va_K.moved (u := U) (U := U.calling gg mk a) (Vm.Alike.refl U.vm) qK, qD, ns_same qF⟩, va_recv hK hP (ci := 5) (q0 := 1) rfl rfl, fun U hU hW => ⟨rfl, by rw [hU], by rw [hU]; exact hPc, va_K.moved hW.alike hKc, hDc.weaken (fun _ _ _ _ => trivial), ns_call hF hS hFc hU hW⟩⟩ rfl rfl hl.1 rfl (lv_room (Nat.le_of_ble_eq_true rfl)) dX16_houseTold_11 ⟨Nat.le_of_ble_eq_true rfl, Nat.le_of_ble_eq_true rfl⟩) hS (fun q _ h => hFc q h) hFc (fun r9 u t H1 locs ht hvm hw hB hz1 hk1 hS => ?_)
  obtain rfl := hw
  obtain ⟨hP1, hK1, hD1⟩ := hB
  rw [ht] at hP1
  have hK1 := va_K.moved hvm.symm hK1
  obtain ⟨hP, hD⟩ := va_join (wr := [(h0, .inr (23, [v0, .ref h1, .int 20, .int 60, .ref (g 34), v1, .int 0, .int 0, .int 0]))]) (w1 := [(q1, .inr (5, [.int 0, .int (-1), .int 0, .ref h1])), (h1, .inr (6, [.int 0, v2, .int 0]))]) hP hD [1, 2] [0] rfl rfl (by decide) (by decide) hk1 hFc hP1 hD1
  have hK := (hK.sub (tys' := []) [] rfl).app hK1
  generalize H1 = H at hP hS ⊢
  have hP : va_P (dC, dI) vwCl [(h0, .inr (23, [v0, .ref h1, .int 20, .int 60, .ref (g 34), v1, .int 0, .int 0, .int 0])), (q1, .inr (5, [.int 0, .int (-1), .int 0, .ref h1])), (h1, .inr (6, [.int 0, v2, .int 0]))] H := hP
  have hD : va_D A [(h0, .inr (23, [v0, .ref h1, .int 20, .int 60, .ref (g 34), v1, .int 0, .int 0, .int 0])), (q1, .inr (5, [.int 0, .int (-1), .int 0, .ref h1])), (h1, .inr (6, [.int 0, v2, .int 0]))] := hD
  have hK : va_K (dC, dI) vwCl [] s := hK
  refine W.widen (k := 1) (n := 4) (Nat.le_of_ble_eq_true rfl) (Nat.le_of_ble_eq_true rfl) ?_
  refine lv_if_eq (tgt := 41) hx hb dX16_houseTold_16 (by decide) (fun c2 => ?_) (fun c2 => absurd (by decide) c2)
  refine lv_bipush (v := 8) hx hb dX16_houseTold_41 (by decide) ?_
  refine va_newa (atype := .int) hx hb (hts (.arrayClass .int) (by decide +kernel)) rfl hK hP hD hS hA (N' := 8) (a0 := (8, .inl (fun _ => 0))) (fun _ => rfl) (by decide) (by decide) (Nat.le_of_ble_eq_true rfl) (Nat.le_of_ble_eq_true rfl) (Nat.le_of_ble_eq_true rfl) dX16_houseTold_43 (fun q3 cyq3 H hK hP hD hS => ?_)
  have hP : va_P (dC, dI) vwCl [(h0, .inr (23, [v0, .ref h1, .int 20, .int 60, .ref (g 34), v1, .int 0, .int 0, .int 0])), (q1, .inr (5, [.int 0, .int (-1), .int 0, .ref h1])), (h1, .inr (6, [.int 0, v2, .int 0])), (q3, .inl (cyq3, 8, .inl (fun _ => 0)))] H := hP
  have hD : va_D A [(h0, .inr (23, [v0, .ref h1, .int 20, .int 60, .ref (g 34), v1, .int 0, .int 0, .int 0])), (q1, .inr (5, [.int 0, .int (-1), .int 0, .ref h1])), (h1, .inr (6, [.int 0, v2, .int 0])), (q3, .inl (cyq3, 8, .inl (fun _ => 0)))] := hD
  have hK : va_K (dC, dI) vwCl [(cyq3, .int)] s := hK
  refine W.widen (k := 2) (n := 12) (Nat.le_of_ble_eq_true rfl) (Nat.le_of_ble_eq_true rfl) ?_
  refine lv_dup hx hb dX16_houseTold_45 rfl ?_
  refine lv_iconst (v := 0) hx hb dX16_houseTold_46 (by decide) ?_
  refine lv_aload_n hx hb dX16_houseTold_47 rfl (lv_at hl 2 rfl) ?_
  refine va_get (D := (dC, dI)) (ci := 23) (v := .ref h1) (C := RX16) (T := TX16) (N := 9) hx hb hts (by decide +kernel) hown hK hP 0 rfl rfl 1 (by decide) (hts (.fieldLink RX16 10 "NestprintModel" "nodes" "Ljava/util/ArrayList;") (by decide +kernel)) (fun _ h9 => h9) rfl dX16_houseTold_48 ?_
  have hPc := hP.sub (ws' := [(h1, .inr (6, [.int 0, v2, .int 0]))]) [2] rfl
  have hDc := hD.sub (ws' := [(h1, .inr (6, [.int 0, v2, .int 0]))]) [2] (by decide) rfl
  have hKc := hK.sub (tys' := []) [] rfl
  have hFc := va_free (wc := [(h1, .inr (6, [.int 0, v2, .int 0]))]) hD hS hA [2] rfl
  refine va_calli (va_runV (As := []) (rest := [.int 0, .ref q3, .ref q3]) ⟨hx, hb, hml, hown, hts⟩ (kJx4a65c_size_8abf5 l dC dI g H.size h1 (.int 0) v2 ) (cwV 0 hts gX16_houseTold_Jx4a65c_size_8abf5 rfl rfl rfl (by decide +kernel) ⟨Nat.le_of_ble_eq_true rfl, Nat.le_of_ble_eq_true rfl⟩) ⟨fun a U gg mk q => by obtain ⟨q0, q1, qP, qK, qD, qF⟩ := q; exact ⟨q0, q1, qP, va_K.moved (u := U) (U := U.calling gg mk a) (Vm.Alike.refl U.vm) qK, qD, ns_same qF⟩, va_recv hK hP (ci := 6) (q0 := 2) rfl rfl, fun U hU hW => ⟨rfl, by rw [hU], by rw [hU]; exact hPc, va_K.moved hW.alike hKc, hDc.weaken (fun _ _ _ _ => trivial), ns_call hF hS hFc hU hW⟩⟩ rfl rfl hl.1 rfl (lv_room (Nat.le_of_ble_eq_true rfl)) dX16_houseTold_51 ⟨Nat.le_of_ble_eq_true rfl, Nat.le_of_ble_eq_true rfl⟩) hS (fun q _ h => hFc q h) hFc (fun r9 u t H1 locs ht hvm hw hB hz1 hk1 hS => ?_)
  obtain rfl := hw
  obtain ⟨hP1, hK1, hD1⟩ := hB
  rw [ht] at hP1
  have hK1 := va_K.moved hvm.symm hK1
  obtain ⟨hP, hD⟩ := va_join (wr := [(h0, .inr (23, [v0, .ref h1, .int 20, .int 60, .ref (g 34), v1, .int 0, .int 0, .int 0])), (q1, .inr (5, [.int 0, .int (-1), .int 0, .ref h1])), (q3, .inl (cyq3, 8, .inl (fun _ => 0)))]) (w1 := [(h1, .inr (6, [.int 0, v2, .int 0]))]) hP hD [2] [0, 1, 3] rfl rfl (by decide) (by decide) hk1 hFc hP1 hD1
  have hK := (hK.sub (tys' := [(cyq3, .int)]) [0] rfl).app hK1
  generalize H1 = H at hP hS ⊢
  have hP : va_P (dC, dI) vwCl [(h0, .inr (23, [v0, .ref h1, .int 20, .int 60, .ref (g 34), v1, .int 0, .int 0, .int 0])), (q1, .inr (5, [.int 0, .int (-1), .int 0, .ref h1])), (q3, .inl (cyq3, 8, .inl (fun _ => 0))), (h1, .inr (6, [.int 0, v2, .int 0]))] H := hP
  have hD : va_D A [(h0, .inr (23, [v0, .ref h1, .int 20, .int 60, .ref (g 34), v1, .int 0, .int 0, .int 0])), (q1, .inr (5, [.int 0, .int (-1), .int 0, .ref h1])), (q3, .inl (cyq3, 8, .inl (fun _ => 0))), (h1, .inr (6, [.int 0, v2, .int 0]))] := hD
  have hK : va_K (dC, dI) vwCl [(cyq3, .int)] s := hK
  refine W.widen (k := 2) (n := 12) (Nat.le_of_ble_eq_true rfl) (Nat.le_of_ble_eq_true rfl) ?_
  refine va_iast hx hb hK hP hD hS 2 0 rfl rfl (vp_in_nI (n := 0) (by decide) (by decide)) dX16_houseTold_54 (fun H locs hP hD hS => ?_)
  have hP : va_P (dC, dI) vwCl [(h0, .inr (23, [v0, .ref h1, .int 20, .int 60, .ref (g 34), v1, .int 0, .int 0, .int 0])), (q1, .inr (5, [.int 0, .int (-1), .int 0, .ref h1])), (q3, .inl (cyq3, 8, .inl (upd (fun _ => 0) 0 0))), (h1, .inr (6, [.int 0, v2, .int 0]))] H := hP
  have hD : va_D A [(h0, .inr (23, [v0, .ref h1, .int 20, .int 60, .ref (g 34), v1, .int 0, .int 0, .int 0])), (q1, .inr (5, [.int 0, .int (-1), .int 0, .ref h1])), (q3, .inl (cyq3, 8, .inl (upd (fun _ => 0) 0 0))), (h1, .inr (6, [.int 0, v2, .int 0]))] := hD
  refine lv_dup hx hb dX16_houseTold_55 rfl ?_
  refine lv_iconst (v := 1) hx hb dX16_houseTold_56 (by decide) ?_
  refine lv_aload_n hx hb dX16_houseTold_57 rfl (lv_at hl 2 rfl) ?_
  refine va_get (D := (dC, dI)) (ci := 23) (v := .int 20) (C := RX16) (T := TX16) (N := 9) hx hb hts (by decide +kernel) hown hK hP 0 rfl rfl 2 (by decide) (hts (.fieldLink RX16 16 "NestprintModel" "width" "I") (by decide +kernel)) (fun _ h9 => h9) rfl dX16_houseTold_58 ?_
  refine va_iast hx hb hK hP hD hS 2 0 rfl rfl (vp_in_nI (n := 1) (by decide) (by decide)) dX16_houseTold_61 (fun H locs hP hD hS => ?_)
  have hP : va_P (dC, dI) vwCl [(h0, .inr (23, [v0, .ref h1, .int 20, .int 60, .ref (g 34), v1, .int 0, .int 0, .int 0])), (q1, .inr (5, [.int 0, .int (-1), .int 0, .ref h1])), (q3, .inl (cyq3, 8, .inl (upd (upd (fun _ => 0) 0 0) 1 20))), (h1, .inr (6, [.int 0, v2, .int 0]))] H := hP
  have hD : va_D A [(h0, .inr (23, [v0, .ref h1, .int 20, .int 60, .ref (g 34), v1, .int 0, .int 0, .int 0])), (q1, .inr (5, [.int 0, .int (-1), .int 0, .ref h1])), (q3, .inl (cyq3, 8, .inl (upd (upd (fun _ => 0) 0 0) 1 20))), (h1, .inr (6, [.int 0, v2, .int 0]))] := hD
  refine lv_dup hx hb dX16_houseTold_62 rfl ?_
  refine lv_iconst (v := 2) hx hb dX16_houseTold_63 (by decide) ?_
  refine lv_aload_n hx hb dX16_houseTold_64 rfl (lv_at hl 2 rfl) ?_
  refine va_get (D := (dC, dI)) (ci := 23) (v := .int 60) (C := RX16) (T := TX16) (N := 9) hx hb hts (by decide +kernel) hown hK hP 0 rfl rfl 3 (by decide) (hts (.fieldLink RX16 20 "NestprintModel" "ribbon" "I") (by decide +kernel)) (fun _ h9 => h9) rfl dX16_houseTold_65 ?_
  refine va_iast hx hb hK hP hD hS 2 0 rfl rfl (vp_in_nI (n := 2) (by decide) (by decide)) dX16_houseTold_68 (fun H locs hP hD hS => ?_)
  have hP : va_P (dC, dI) vwCl [(h0, .inr (23, [v0, .ref h1, .int 20, .int 60, .ref (g 34), v1, .int 0, .int 0, .int 0])), (q1, .inr (5, [.int 0, .int (-1), .int 0, .ref h1])), (q3, .inl (cyq3, 8, .inl (upd (upd (upd (fun _ => 0) 0 0) 1 20) 2 60))), (h1, .inr (6, [.int 0, v2, .int 0]))] H := hP
  have hD : va_D A [(h0, .inr (23, [v0, .ref h1, .int 20, .int 60, .ref (g 34), v1, .int 0, .int 0, .int 0])), (q1, .inr (5, [.int 0, .int (-1), .int 0, .ref h1])), (q3, .inl (cyq3, 8, .inl (upd (upd (upd (fun _ => 0) 0 0) 1 20) 2 60))), (h1, .inr (6, [.int 0, v2, .int 0]))] := hD
  refine lv_dup hx hb dX16_houseTold_69 rfl ?_
  refine lv_iconst (v := 3) hx hb dX16_houseTold_70 (by decide) ?_
  refine lv_aload_n hx hb dX16_houseTold_71 rfl (lv_at hl 2 rfl) ?_
  refine va_get (D := (dC, dI)) (ci := 23) (v := .ref (g 34)) (C := RX16) (T := TX16) (N := 9) hx hb hts (by decide +kernel) hown hK hP 0 rfl rfl 4 (by decide) (hts (.fieldLink RX16 25 "NestprintModel" "typed" "Ljava/lang/String;") (by decide +kernel)) (fun _ h9 => h9) rfl dX16_houseTold_72 ?_
  have hPc := hP.sub (ws' := []) [] rfl
  have hDc := hD.sub (ws' := []) [] (by decide) rfl
  have hKc := hK.sub (tys' := []) [] rfl
  have hFc := va_free (wc := []) hD hS hA [] rfl
  refine va_calli (va_runV (As := []) (rest := [.int 3, .ref q3, .ref q3]) ⟨hx, hb, hml, hown, hts⟩ (kJ0_length_8abf5 l dC dI g H.size  ) (cwV 0 hts gX16_houseTold_J0_length_8abf5 rfl rfl rfl (by decide +kernel) ⟨Nat.le_of_ble_eq_true rfl, Nat.le_of_ble_eq_true rfl⟩) ⟨fun a U gg mk q => by obtain ⟨q0, q1, qP, qK, qD, qF⟩ := q; exact ⟨q0, q1, qP, va_K.moved (u := U) (U := U.calling gg mk a) (Vm.Alike.refl U.vm) qK, qD, ns_same qF⟩, va_Orecv (ns_f37 hF) hS, fun U hU hW => ⟨rfl, by rw [hU], by rw [hU]; exact hPc, va_K.moved hW.alike hKc, hDc.weaken (fun _ _ _ _ => trivial), ns_call hF hS hFc hU hW⟩⟩ rfl rfl hl.1 rfl (lv_room (Nat.le_of_ble_eq_true rfl)) dX16_houseTold_75 ⟨Nat.le_of_ble_eq_true rfl, Nat.le_of_ble_eq_true rfl⟩) hS (fun q _ h => hFc q h) hFc (fun r9 u t H1 locs ht hvm hw hB hz1 hk1 hS => ?_)
  obtain rfl := hw
  obtain ⟨hP1, hK1, hD1⟩ := hB
  rw [ht] at hP1
  have hK1 := va_K.moved hvm.symm hK1
  obtain ⟨hP, hD⟩ := va_join (wr := [(h0, .inr (23, [v0, .ref h1, .int 20, .int 60, .ref (g 34), v1, .int 0, .int 0, .int 0])), (q1, .inr (5, [.int 0, .int (-1), .int 0, .ref h1])), (q3, .inl (cyq3, 8, .inl (upd (upd (upd (fun _ => 0) 0 0) 1 20) 2 60))), (h1, .inr (6, [.int 0, v2, .int 0]))]) (w1 := []) hP hD [] [0, 1, 2, 3] rfl rfl (by decide) (by decide) hk1 hFc hP1 hD1
  have hK := (hK.sub (tys' := [(cyq3, .int)]) [0] rfl).app hK1
  generalize H1 = H at hP hS ⊢
  have hP : va_P (dC, dI) vwCl [(h0, .inr (23, [v0, .ref h1, .int 20, .int 60, .ref (g 34), v1, .int 0, .int 0, .int 0])), (q1, .inr (5, [.int 0, .int (-1), .int 0, .ref h1])), (q3, .inl (cyq3, 8, .inl (upd (upd (upd (fun _ => 0) 0 0) 1 20) 2 60))), (h1, .inr (6, [.int 0, v2, .int 0]))] H := hP
  have hD : va_D A [(h0, .inr (23, [v0, .ref h1, .int 20, .int 60, .ref (g 34), v1, .int 0, .int 0, .int 0])), (q1, .inr (5, [.int 0, .int (-1), .int 0, .ref h1])), (q3, .inl (cyq3, 8, .inl (upd (upd (upd (fun _ => 0) 0 0) 1 20) 2 60))), (h1, .inr (6, [.int 0, v2, .int 0]))] := hD
  have hK : va_K (dC, dI) vwCl [(cyq3, .int)] s := hK
  refine W.widen (k := 2) (n := 12) (Nat.le_of_ble_eq_true rfl) (Nat.le_of_ble_eq_true rfl) ?_
  refine va_iast hx hb hK hP hD hS 2 0 rfl rfl (vp_in_nI (n := 3) (by decide) (by decide)) dX16_houseTold_78 (fun H locs hP hD hS => ?_)
  have hP : va_P (dC, dI) vwCl [(h0, .inr (23, [v0, .ref h1, .int 20, .int 60, .ref (g 34), v1, .int 0, .int 0, .int 0])), (q1, .inr (5, [.int 0, .int (-1), .int 0, .ref h1])), (q3, .inl (cyq3, 8, .inl (upd (upd (upd (upd (fun _ => 0) 0 0) 1 20) 2 60) 3 0))), (h1, .inr (6, [.int 0, v2, .int 0]))] H := hP
  have hD : va_D A [(h0, .inr (23, [v0, .ref h1, .int 20, .int 60, .ref (g 34), v1, .int 0, .int 0, .int 0])), (q1, .inr (5, [.int 0, .int (-1), .int 0, .ref h1])), (q3, .inl (cyq3, 8, .inl (upd (upd (upd (upd (fun _ => 0) 0 0) 1 20) 2 60) 3 0))), (h1, .inr (6, [.int 0, v2, .int 0]))] := hD
  refine lv_dup hx hb dX16_houseTold_79 rfl ?_
  refine lv_iconst (v := 4) hx hb dX16_houseTold_80 (by decide) ?_
  refine lv_aload_n hx hb dX16_houseTold_81 rfl (lv_at hl 2 rfl) ?_
  refine va_get (D := (dC, dI)) (ci := 23) (v := .int 0) (C := RX16) (T := TX16) (N := 9) hx hb hts (by decide +kernel) hown hK hP 0 rfl rfl 6 (by decide) (hts (.fieldLink RX16 272 "NestprintModel" "counted" "I") (by decide +kernel)) (fun _ h9 => h9) rfl dX16_houseTold_82 ?_
  refine va_iast hx hb hK hP hD hS 2 0 rfl rfl (vp_in_nI (n := 4) (by decide) (by decide)) dX16_houseTold_85 (fun H locs hP hD hS => ?_)
  have hP : va_P (dC, dI) vwCl [(h0, .inr (23, [v0, .ref h1, .int 20, .int 60, .ref (g 34), v1, .int 0, .int 0, .int 0])), (q1, .inr (5, [.int 0, .int (-1), .int 0, .ref h1])), (q3, .inl (cyq3, 8, .inl (upd (upd (upd (upd (upd (fun _ => 0) 0 0) 1 20) 2 60) 3 0) 4 0))), (h1, .inr (6, [.int 0, v2, .int 0]))] H := hP
  have hD : va_D A [(h0, .inr (23, [v0, .ref h1, .int 20, .int 60, .ref (g 34), v1, .int 0, .int 0, .int 0])), (q1, .inr (5, [.int 0, .int (-1), .int 0, .ref h1])), (q3, .inl (cyq3, 8, .inl (upd (upd (upd (upd (upd (fun _ => 0) 0 0) 1 20) 2 60) 3 0) 4 0))), (h1, .inr (6, [.int 0, v2, .int 0]))] := hD
  refine lv_dup hx hb dX16_houseTold_86 rfl ?_
  refine lv_iconst (v := 5) hx hb dX16_houseTold_87 (by decide) ?_
  refine lv_aload_n hx hb dX16_houseTold_88 rfl (lv_at hl 2 rfl) ?_
  refine va_get (D := (dC, dI)) (ci := 23) (v := .int 0) (C := RX16) (T := TX16) (N := 9) hx hb hts (by decide +kernel) hown hK hP 0 rfl rfl 7 (by decide) (hts (.fieldLink RX16 275 "NestprintModel" "knocks" "I") (by decide +kernel)) (fun _ h9 => h9) rfl dX16_houseTold_89 ?_
  refine va_iast hx hb hK hP hD hS 2 0 rfl rfl (vp_in_nI (n := 5) (by decide) (by decide)) dX16_houseTold_92 (fun H locs hP hD hS => ?_)
  have hP : va_P (dC, dI) vwCl [(h0, .inr (23, [v0, .ref h1, .int 20, .int 60, .ref (g 34), v1, .int 0, .int 0, .int 0])), (q1, .inr (5, [.int 0, .int (-1), .int 0, .ref h1])), (q3, .inl (cyq3, 8, .inl (upd (upd (upd (upd (upd (upd (fun _ => 0) 0 0) 1 20) 2 60) 3 0) 4 0) 5 0))), (h1, .inr (6, [.int 0, v2, .int 0]))] H := hP
  have hD : va_D A [(h0, .inr (23, [v0, .ref h1, .int 20, .int 60, .ref (g 34), v1, .int 0, .int 0, .int 0])), (q1, .inr (5, [.int 0, .int (-1), .int 0, .ref h1])), (q3, .inl (cyq3, 8, .inl (upd (upd (upd (upd (upd (upd (fun _ => 0) 0 0) 1 20) 2 60) 3 0) 4 0) 5 0))), (h1, .inr (6, [.int 0, v2, .int 0]))] := hD
  refine lv_dup hx hb dX16_houseTold_93 rfl ?_
  refine lv_bipush (v := 6) hx hb dX16_houseTold_94 (by decide) ?_
  refine lv_aload_n hx hb dX16_houseTold_96 rfl (lv_at hl 2 rfl) ?_
  refine va_get (D := (dC, dI)) (ci := 23) (v := .int 0) (C := RX16) (T := TX16) (N := 9) hx hb hts (by decide +kernel) hown hK hP 0 rfl rfl 8 (by decide) (hts (.fieldLink RX16 193 "NestprintModel" "ever" "I") (by decide +kernel)) (fun _ h9 => h9) rfl dX16_houseTold_97 ?_
  refine va_iast hx hb hK hP hD hS 2 0 rfl rfl (vp_in_nI (n := 6) (by decide) (by decide)) dX16_houseTold_100 (fun H locs hP hD hS => ?_)
  have hP : va_P (dC, dI) vwCl [(h0, .inr (23, [v0, .ref h1, .int 20, .int 60, .ref (g 34), v1, .int 0, .int 0, .int 0])), (q1, .inr (5, [.int 0, .int (-1), .int 0, .ref h1])), (q3, .inl (cyq3, 8, .inl (upd (upd (upd (upd (upd (upd (upd (fun _ => 0) 0 0) 1 20) 2 60) 3 0) 4 0) 5 0) 6 0))), (h1, .inr (6, [.int 0, v2, .int 0]))] H := hP
  have hD : va_D A [(h0, .inr (23, [v0, .ref h1, .int 20, .int 60, .ref (g 34), v1, .int 0, .int 0, .int 0])), (q1, .inr (5, [.int 0, .int (-1), .int 0, .ref h1])), (q3, .inl (cyq3, 8, .inl (upd (upd (upd (upd (upd (upd (upd (fun _ => 0) 0 0) 1 20) 2 60) 3 0) 4 0) 5 0) 6 0))), (h1, .inr (6, [.int 0, v2, .int 0]))] := hD
  refine lv_dup hx hb dX16_houseTold_101 rfl ?_
  refine lv_bipush (v := 7) hx hb dX16_houseTold_102 (by decide) ?_
  refine lv_iload_n hx hb dX16_houseTold_104 rfl (lv_at hl 1 rfl) ?_
  refine va_iast hx hb hK hP hD hS 2 0 rfl rfl (vp_in_nI (n := 7) (by decide) (by decide)) dX16_houseTold_105 (fun H locs hP hD hS => ?_)
  have hP : va_P (dC, dI) vwCl [(h0, .inr (23, [v0, .ref h1, .int 20, .int 60, .ref (g 34), v1, .int 0, .int 0, .int 0])), (q1, .inr (5, [.int 0, .int (-1), .int 0, .ref h1])), (q3, .inl (cyq3, 8, .inl (upd (upd (upd (upd (upd (upd (upd (upd (fun _ => 0) 0 0) 1 20) 2 60) 3 0) 4 0) 5 0) 6 0) 7 0))), (h1, .inr (6, [.int 0, v2, .int 0]))] H := hP
  have hD : va_D A [(h0, .inr (23, [v0, .ref h1, .int 20, .int 60, .ref (g 34), v1, .int 0, .int 0, .int 0])), (q1, .inr (5, [.int 0, .int (-1), .int 0, .ref h1])), (q3, .inl (cyq3, 8, .inl (upd (upd (upd (upd (upd (upd (upd (upd (fun _ => 0) 0 0) 1 20) 2 60) 3 0) 4 0) 5 0) 6 0) 7 0))), (h1, .inr (6, [.int 0, v2, .int 0]))] := hD
  refine lv_astore_n (lv' := [(3, .ref q3), (2, .int 0), (0, .ref h0), (1, .int 2)]) hx hb dX16_houseTold_106 rfl hl (by decide) rfl (fun ls hl => ?_)
  refine lv_aload_n hx hb dX16_houseTold_107 rfl (lv_at hl 0 rfl) ?_
  refine lv_iload_n hx hb dX16_houseTold_108 rfl (lv_at hl 3 rfl) ?_
  refine va_iald hx hb hK hP 2 0 rfl rfl (vp_in_nI (n := 2) (by decide) (by decide)) dX16_houseTold_109 ?_
  refine lv_topi (fun y4 ey4 => ?_)
  obtain rfl : y4 = 60 := ey4
  have hP9 := hP.sub (ws' := [(h0, .inr (23, [v0, .ref h1, .int 20, .int 60, .ref (g 34), v1, .int 0, .int 0, .int 0])), (q1, .inr (5, [.int 0, .int (-1), .int 0, .ref h1])), (q3, .inl (cyq3, 8, .inl (upd (upd (upd (upd (upd (upd (upd (upd (fun _ => 0) 0 0) 1 20) 2 60) 3 0) 4 0) 5 0) 6 0) 7 0))), (h1, .inr (6, [.int 0, v2, .int 0]))]) [0, 1, 2, 3] rfl
  have hD9 := hD.sub (ws' := [(h0, .inr (23, [v0, .ref h1, .int 20, .int 60, .ref (g 34), v1, .int 0, .int 0, .int 0])), (q1, .inr (5, [.int 0, .int (-1), .int 0, .ref h1])), (q3, .inl (cyq3, 8, .inl (upd (upd (upd (upd (upd (upd (upd (upd (fun _ => 0) 0 0) 1 20) 2 60) 3 0) 4 0) 5 0) 6 0) 7 0))), (h1, .inr (6, [.int 0, v2, .int 0]))]) [0, 1, 2, 3] (by decide) rfl
  have hK9 := hK.sub (tys' := [(cyq3, .int)]) [0] rfl
  refine W.widen (k := 2) (n := 12) (Nat.le_of_ble_eq_true rfl) (Nat.le_of_ble_eq_true rfl) ?_
  exact W.iret (v := 60) hx hb hr (fun t ht hW => ⟨⟨_, (), rfl, rfl, q1, q3, cyq3, by rw [ht]; exact hP9, va_K.moved hW.alike hK9, hD9⟩, hS.F ht⟩) hS.2.2 dX16_houseTold_110
set_option maxHeartbeats 4000000 in
set_option maxRecDepth 100000 in
theorem kX16_house_4 (l : Launch) (dC : Nat → ClassId) (dI : Nat → Nat → Nat) (g : Nat → Nat) (sz : Nat) (h0 : Nat) (h1 : Nat) (v0 : Value) (v1 : Value) (v2 : Value) : Met l yX16_house wsX16_house ({ frames := 4, cells := 2, slots := 12, locals := 77 }) (va_Pc [.ref h0, .int 2] (fun U => U.heap.size = sz ∧ va_P (dC, dI) vwCl [(h0, .inr (23, [v0, .ref h1, .int 20, .int 60, .ref (g 34), v1, .int 0, .int 0, .int 0])), (h1, .inr (6, [.int 0, v2, .int 0]))] U.heap ∧ va_K (dC, dI) vwCl [] U ∧ va_D (fun _ => True) [(h0, .inr (23, [v0, .ref h1, .int 20, .int 60, .ref (g 34), v1, .int 0, .int 0, .int 0])), (h1, .inr (6, [.int 0, v2, .int 0]))] ∧ ns_F g (va_A [(h0, .inr (23, [v0, .ref h1, .int 20, .int 60, .ref (g 34), v1, .int 0, .int 0, .int 0])), (h1, .inr (6, [.int 0, v2, .int 0]))] sz) U U.heap)) (va_Qi (fun (r : Int32) (_ : Unit) => r = 60) (fun _ t => ∃ k0 : Nat, ∃ k1 : Nat, ∃ kc2 : ClassId, va_P (dC, dI) vwCl [(h0, .inr (23, [.int 0, .ref h1, .int 20, .int 60, .ref (g 34), v1, .int 0, .int 0, .int 0])), (k0, .inr (5, [.int 0, .int (-1), .int 0, .ref h1])), (k1, .inl (kc2, 8, .inl (upd (upd (upd (upd (upd (upd (upd (upd (fun _ => 0) 0 0) 1 20) 2 60) 3 0) 4 0) 5 0) 6 0) 7 0))), (h1, .inr (6, [.int 0, v2, .int 0]))] t.heap ∧ va_K (dC, dI) vwCl [(kc2, .int)] t ∧ va_D (va_A [(h0, .inr (23, [v0, .ref h1, .int 20, .int 60, .ref (g 34), v1, .int 0, .int 0, .int 0])), (h1, .inr (6, [.int 0, v2, .int 0]))] sz) [(h0, .inr (23, [.int 0, .ref h1, .int 20, .int 60, .ref (g 34), v1, .int 0, .int 0, .int 0])), (k0, .inr (5, [.int 0, .int (-1), .int 0, .ref h1])), (k1, .inl (kc2, 8, .inl (upd (upd (upd (upd (upd (upd (upd (upd (fun _ => 0) 0 0) 1 20) 2 60) 3 0) 4 0) 5 0) 6 0) 7 0))), (h1, .inr (6, [.int 0, v2, .int 0]))]) (va_A [(h0, .inr (23, [v0, .ref h1, .int 20, .int 60, .ref (g 34), v1, .int 0, .int 0, .int 0])), (h1, .inr (6, [.int 0, v2, .int 0]))] sz)) 2 12 (va_A [(h0, .inr (23, [v0, .ref h1, .int 20, .int 60, .ref (g 34), v1, .int 0, .int 0, .int 0])), (h1, .inr (6, [.int 0, v2, .int 0]))] sz) := by
  refine Met.ofW (cc := cX16_house) (maxL := 2) (ret := (some .int)) (by decide) rfl ?_
  intro p e s m args below meth c s₁ B hml hv
  obtain ⟨rfl, hsz, hP, hK, hD0, hF⟩ := hv
  have hx := B.exec
  have hb := B.bytes
  have hr := B.returns
  have hts := atoms_spec (ws := wsX16_house) B.pre
  have hown : s.vm.findClass RX16 = some m.cls := findClass_of_methodNamed B.named
  have hlocks := B.notSynchronized
  subst hsz
  have hD := hD0.self (sz := s.heap.size)
  generalize hAe : va_A [(h0, .inr (23, [v0, .ref h1, .int 20, .int 60, .ref (g 34), v1, .int 0, .int 0, .int 0])), (h1, .inr (6, [.int 0, v2, .int 0]))] s.heap.size = A at hD hF ⊢
  have hA : ∀ q : Nat, s.heap.size ≤ q → A q := fun q h => by rw [← hAe]; exact Or.inr h
  have hS : va_S A s.heap s.heap [] := va_S.rf
  have hP : va_P (dC, dI) vwCl [(h0, .inr (23, [v0, .ref h1, .int 20, .int 60, .ref (g 34), v1, .int 0, .int 0, .int 0])), (h1, .inr (6, [.int 0, v2, .int 0]))] s.heap := hP
  have hl := lv_entry ([.ref h0, .int 2]) (n := 2) (Nat.le_of_ble_eq_true rfl)
  rw [lg_entry_eq]
  generalize (lg_sl ([.ref h0, .int 2]) ++ List.replicate (2 - (lg_sl ([.ref h0, .int 2])).length) Slot.unset).toArray = ls at hl ⊢
  have hl : lv_has ls 2 [(0, .ref h0), (1, .int 2)] := hl
  refine lv_aload_n hx hb dX16_house_0 rfl (lv_at hl 0 rfl) ?_
  refine lv_iload_n hx hb dX16_house_1 rfl (lv_at hl 1 rfl) ?_
  refine lv_iconst (v := 0) hx hb dX16_house_2 (by decide) ?_
  refine lv_bipush (v := 7) hx hb dX16_house_3 (by decide) ?_
  have hPc := hP.sub (ws' := []) [] rfl
  have hDc := hD.sub (ws' := []) [] (by decide) rfl
  have hKc := hK.sub (tys' := []) [] rfl
  have hFc := va_free (wc := []) hD hS hA [] rfl
  refine va_calli (va_runS (As := [.int 2, .int 0, .int 7]) (rest := [.ref h0]) ⟨hx, hb, hml, hown, hts⟩ (kX16_isIn_18 l dC dI g s.heap.size  ) (va_cwS 3 hts gX16_house_X16_isIn rfl rfl rfl (by decide +kernel) ⟨Nat.le_of_ble_eq_true rfl, Nat.le_of_ble_eq_true rfl⟩) ⟨fun a U gg mk q => by obtain ⟨q0, q1, qP, qK, qD, qF⟩ := q; exact ⟨q0, q1, qP, va_K.moved (u := U) (U := U.calling gg mk a) (Vm.Alike.refl U.vm) qK, qD, ns_same qF⟩, fun U hU hW => ⟨rfl, by rw [hU], by rw [hU]; exact hPc, va_K.moved hW.alike hKc, hDc.weaken (fun _ _ _ _ => trivial), ns_call hF hS hFc hU hW⟩⟩ rfl rfl hl.1 rfl (lv_room (Nat.le_of_ble_eq_true rfl)) dX16_house_5 ⟨Nat.le_of_ble_eq_true rfl, Nat.le_of_ble_eq_true rfl⟩) hS (fun q _ h => hFc q h) hFc (fun r9 u t H1 locs ht hvm hw hB hz1 hk1 hS => ?_)
  obtain rfl := hw
  obtain ⟨hP1, hK1, hD1⟩ := hB
  rw [ht] at hP1
  have hK1 := va_K.moved hvm.symm hK1
  obtain ⟨hP, hD⟩ := va_join (wr := [(h0, .inr (23, [v0, .ref h1, .int 20, .int 60, .ref (g 34), v1, .int 0, .int 0, .int 0])), (h1, .inr (6, [.int 0, v2, .int 0]))]) (w1 := []) hP hD [] [0, 1] rfl rfl (by decide) (by decide) hk1 hFc hP1 hD1
  have hK := (hK.sub (tys' := []) [] rfl).app hK1
  generalize H1 = H at hP hS ⊢
  have hP : va_P (dC, dI) vwCl [(h0, .inr (23, [v0, .ref h1, .int 20, .int 60, .ref (g 34), v1, .int 0, .int 0, .int 0])), (h1, .inr (6, [.int 0, v2, .int 0]))] H := hP
  have hD : va_D A [(h0, .inr (23, [v0, .ref h1, .int 20, .int 60, .ref (g 34), v1, .int 0, .int 0, .int 0])), (h1, .inr (6, [.int 0, v2, .int 0]))] := hD
  have hK : va_K (dC, dI) vwCl [] s := hK
  refine W.widen (k := 0) (n := 0) (Nat.le_of_ble_eq_true rfl) (Nat.le_of_ble_eq_true rfl) ?_
  refine lv_if_ne (tgt := 15) hx hb dX16_house_8 (by decide) (fun c1 => ?_) (fun c1 => absurd c1 (by decide))
  refine lv_iconst (v := 0) hx hb dX16_house_15 (by decide) ?_
  refine lv_iconst (v := 1) hx hb dX16_house_16 (by decide) ?_
  have hPc := hP.sub (ws' := [(h0, .inr (23, [v0, .ref h1, .int 20, .int 60, .ref (g 34), v1, .int 0, .int 0, .int 0]))]) [0] rfl
  have hDc := hD.sub (ws' := [(h0, .inr (23, [v0, .ref h1, .int 20, .int 60, .ref (g 34), v1, .int 0, .int 0, .int 0]))]) [0] (by decide) rfl
  have hKc := hK.sub (tys' := []) [] rfl
  have hFc := va_free (wc := [(h0, .inr (23, [v0, .ref h1, .int 20, .int 60, .ref (g 34), v1, .int 0, .int 0, .int 0]))]) hD hS hA [0] rfl
  refine va_calli (va_runV (As := [.int 0, .int 1]) (rest := []) ⟨hx, hb, hml, hown, hts⟩ (kX16_start_2 l dC dI g H.size h0 v0 (.ref h1) (.int 20) (.int 60) (.ref (g 34)) v1 (.int 0) (.int 0) (.int 0) ) (cwV 2 hts gX16_house_X16_start rfl rfl rfl (by decide +kernel) ⟨Nat.le_of_ble_eq_true rfl, Nat.le_of_ble_eq_true rfl⟩) ⟨fun a U gg mk q => by obtain ⟨q0, q1, qP, qK, qD, qF⟩ := q; exact ⟨q0, q1, qP, va_K.moved (u := U) (U := U.calling gg mk a) (Vm.Alike.refl U.vm) qK, qD, ns_same qF⟩, va_recv hK hP (ci := 23) (q0 := 0) rfl rfl, fun U hU hW => ⟨rfl, by rw [hU], by rw [hU]; exact hPc, va_K.moved hW.alike hKc, hDc.weaken (fun _ _ _ _ => trivial), ns_call hF hS hFc hU hW⟩⟩ rfl rfl hl.1 rfl (lv_room (Nat.le_of_ble_eq_true rfl)) dX16_house_17 ⟨Nat.le_of_ble_eq_true rfl, Nat.le_of_ble_eq_true rfl⟩) hS (fun q _ h => hFc q h) hFc (fun r9 u t H1 locs ht hvm hw hB hz1 hk1 hS => ?_)
  obtain rfl := hw
  obtain ⟨hP1, hK1, hD1⟩ := hB
  rw [ht] at hP1
  have hK1 := va_K.moved hvm.symm hK1
  obtain ⟨hP, hD⟩ := va_join (wr := [(h1, .inr (6, [.int 0, v2, .int 0]))]) (w1 := [(h0, .inr (23, [.int 0, .ref h1, .int 20, .int 60, .ref (g 34), v1, .int 0, .int 0, .int 0]))]) hP hD [0] [1] rfl rfl (by decide) (by decide) hk1 hFc hP1 hD1
  have hK := (hK.sub (tys' := []) [] rfl).app hK1
  generalize H1 = H at hP hS ⊢
  have hP : va_P (dC, dI) vwCl [(h1, .inr (6, [.int 0, v2, .int 0])), (h0, .inr (23, [.int 0, .ref h1, .int 20, .int 60, .ref (g 34), v1, .int 0, .int 0, .int 0]))] H := hP
  have hD : va_D A [(h1, .inr (6, [.int 0, v2, .int 0])), (h0, .inr (23, [.int 0, .ref h1, .int 20, .int 60, .ref (g 34), v1, .int 0, .int 0, .int 0]))] := hD
  have hK : va_K (dC, dI) vwCl [] s := hK
  refine W.widen (k := 0) (n := 0) (Nat.le_of_ble_eq_true rfl) (Nat.le_of_ble_eq_true rfl) ?_
  refine lv_if_eq (tgt := 27) hx hb dX16_house_20 (by decide) (fun c2 => ?_) (fun c2 => absurd (by decide) c2)
  refine lv_aload_n hx hb dX16_house_27 rfl (lv_at hl 0 rfl) ?_
  refine lv_iload_n hx hb dX16_house_28 rfl (lv_at hl 1 rfl) ?_
  have hPc := hP.sub (ws' := [(h0, .inr (23, [.int 0, .ref h1, .int 20, .int 60, .ref (g 34), v1, .int 0, .int 0, .int 0])), (h1, .inr (6, [.int 0, v2, .int 0]))]) [1, 0] rfl
  have hDc := hD.sub (ws' := [(h0, .inr (23, [.int 0, .ref h1, .int 20, .int 60, .ref (g 34), v1, .int 0, .int 0, .int 0])), (h1, .inr (6, [.int 0, v2, .int 0]))]) [1, 0] (by decide) rfl
  have hKc := hK.sub (tys' := []) [] rfl
  have hFc := va_free (wc := [(h0, .inr (23, [.int 0, .ref h1, .int 20, .int 60, .ref (g 34), v1, .int 0, .int 0, .int 0])), (h1, .inr (6, [.int 0, v2, .int 0]))]) hD hS hA [1, 0] rfl
  refine va_calli (va_runV (As := [.int 2]) (rest := []) ⟨hx, hb, hml, hown, hts⟩ (kX16_houseTold_3 l dC dI g H.size h0 h1 (.int 0) v1 v2 ) (cwV 1 hts gX16_house_X16_houseTold rfl rfl rfl (by decide +kernel) ⟨Nat.le_of_ble_eq_true rfl, Nat.le_of_ble_eq_true rfl⟩) ⟨fun a U gg mk q => by obtain ⟨q0, q1, qP, qK, qD, qF⟩ := q; exact ⟨q0, q1, qP, va_K.moved (u := U) (U := U.calling gg mk a) (Vm.Alike.refl U.vm) qK, qD, ns_same qF⟩, va_recv hK hP (ci := 23) (q0 := 1) rfl rfl, fun U hU hW => ⟨rfl, by rw [hU], by rw [hU]; exact hPc, va_K.moved hW.alike hKc, hDc.weaken (fun _ _ _ _ => trivial), ns_call hF hS hFc hU hW⟩⟩ rfl rfl hl.1 rfl (lv_room (Nat.le_of_ble_eq_true rfl)) dX16_house_29 ⟨Nat.le_of_ble_eq_true rfl, Nat.le_of_ble_eq_true rfl⟩) hS (fun q _ h => hFc q h) hFc (fun r9 u t H1 locs ht hvm hw hB hz1 hk1 hS => ?_)
  obtain rfl := hw
  obtain ⟨q3, q4, cy5, hP1, hK1, hD1⟩ := hB
  rw [ht] at hP1
  have hK1 := va_K.moved hvm.symm hK1
  obtain ⟨hP, hD⟩ := va_join (wr := []) (w1 := [(h0, .inr (23, [.int 0, .ref h1, .int 20, .int 60, .ref (g 34), v1, .int 0, .int 0, .int 0])), (q3, .inr (5, [.int 0, .int (-1), .int 0, .ref h1])), (q4, .inl (cy5, 8, .inl (upd (upd (upd (upd (upd (upd (upd (upd (fun _ => 0) 0 0) 1 20) 2 60) 3 0) 4 0) 5 0) 6 0) 7 0))), (h1, .inr (6, [.int 0, v2, .int 0]))]) hP hD [1, 0] [] rfl rfl (by decide) (by decide) hk1 hFc hP1 hD1
  have hK := (hK.sub (tys' := []) [] rfl).app hK1
  generalize H1 = H at hP hS ⊢
  have hP : va_P (dC, dI) vwCl [(h0, .inr (23, [.int 0, .ref h1, .int 20, .int 60, .ref (g 34), v1, .int 0, .int 0, .int 0])), (q3, .inr (5, [.int 0, .int (-1), .int 0, .ref h1])), (q4, .inl (cy5, 8, .inl (upd (upd (upd (upd (upd (upd (upd (upd (fun _ => 0) 0 0) 1 20) 2 60) 3 0) 4 0) 5 0) 6 0) 7 0))), (h1, .inr (6, [.int 0, v2, .int 0]))] H := hP
  have hD : va_D A [(h0, .inr (23, [.int 0, .ref h1, .int 20, .int 60, .ref (g 34), v1, .int 0, .int 0, .int 0])), (q3, .inr (5, [.int 0, .int (-1), .int 0, .ref h1])), (q4, .inl (cy5, 8, .inl (upd (upd (upd (upd (upd (upd (upd (upd (fun _ => 0) 0 0) 1 20) 2 60) 3 0) 4 0) 5 0) 6 0) 7 0))), (h1, .inr (6, [.int 0, v2, .int 0]))] := hD
  have hK : va_K (dC, dI) vwCl [(cy5, .int)] s := hK
  refine W.widen (k := 2) (n := 12) (Nat.le_of_ble_eq_true rfl) (Nat.le_of_ble_eq_true rfl) ?_
  have hP9 := hP.sub (ws' := [(h0, .inr (23, [.int 0, .ref h1, .int 20, .int 60, .ref (g 34), v1, .int 0, .int 0, .int 0])), (q3, .inr (5, [.int 0, .int (-1), .int 0, .ref h1])), (q4, .inl (cy5, 8, .inl (upd (upd (upd (upd (upd (upd (upd (upd (fun _ => 0) 0 0) 1 20) 2 60) 3 0) 4 0) 5 0) 6 0) 7 0))), (h1, .inr (6, [.int 0, v2, .int 0]))]) [0, 1, 2, 3] rfl
  have hD9 := hD.sub (ws' := [(h0, .inr (23, [.int 0, .ref h1, .int 20, .int 60, .ref (g 34), v1, .int 0, .int 0, .int 0])), (q3, .inr (5, [.int 0, .int (-1), .int 0, .ref h1])), (q4, .inl (cy5, 8, .inl (upd (upd (upd (upd (upd (upd (upd (upd (fun _ => 0) 0 0) 1 20) 2 60) 3 0) 4 0) 5 0) 6 0) 7 0))), (h1, .inr (6, [.int 0, v2, .int 0]))]) [0, 1, 2, 3] (by decide) rfl
  have hK9 := hK.sub (tys' := [(cy5, .int)]) [0] rfl
  refine W.widen (k := 2) (n := 12) (Nat.le_of_ble_eq_true rfl) (Nat.le_of_ble_eq_true rfl) ?_
  exact W.iret (v := 60) hx hb hr (fun t ht hW => ⟨⟨_, (), rfl, rfl, q3, q4, cy5, by rw [ht]; exact hP9, va_K.moved hW.alike hK9, hD9⟩, hS.F ht⟩) hS.2.2 dX16_house_32
set_option maxHeartbeats 4000000 in
set_option maxRecDepth 100000 in
theorem kX9_stateOf_4 (l : Launch) (dC : Nat → ClassId) (dI : Nat → Nat → Nat) (g : Nat → Nat) (sz : Nat) (h0 : Nat) (h1 : Nat) (v0 : Value) (v1 : Value) (v2 : Value) (v3 : Value) (v4 : Value) (v5 : Value) (v6 : Value) (v7 : Value) (v8 : Value) (v9 : Value) (v10 : Value) (v11 : Value) (v12 : Value) (v13 : Value) (v14 : Value) (v15 : Value) : Met l yX9_stateOf wsX9_stateOf ({ frames := 1, cells := 0, slots := 0, locals := 20 }) (va_Pc [.ref h0, .int 3] (fun U => U.heap.size = sz ∧ va_P (dC, dI) vwCl [(h0, .inr (16, [v0, .ref h1, v1, v2, v3, v4, v5, v6, v7, v8, v9, v10, v11, v12, v13, v14])), (h1, .inr (11, [v15, .int 0]))] U.heap ∧ va_K (dC, dI) vwCl [] U ∧ va_D (fun _ => True) [(h0, .inr (16, [v0, .ref h1, v1, v2, v3, v4, v5, v6, v7, v8, v9, v10, v11, v12, v13, v14])), (h1, .inr (11, [v15, .int 0]))] ∧ ns_F g (va_A [(h0, .inr (16, [v0, .ref h1, v1, v2, v3, v4, v5, v6, v7, v8, v9, v10, v11, v12, v13, v14])), (h1, .inr (11, [v15, .int 0]))] sz) U U.heap)) (va_Qi (fun (r : Int32) (_ : Unit) => r = 0) (fun _ t => va_P (dC, dI) vwCl [(h0, .inr (16, [v0, .ref h1, v1, v2, v3, v4, v5, v6, v7, v8, v9, v10, v11, v12, v13, v14])), (h1, .inr (11, [v15, .int 0]))] t.heap ∧ va_K (dC, dI) vwCl [] t ∧ va_D (va_A [(h0, .inr (16, [v0, .ref h1, v1, v2, v3, v4, v5, v6, v7, v8, v9, v10, v11, v12, v13, v14])), (h1, .inr (11, [v15, .int 0]))] sz) [(h0, .inr (16, [v0, .ref h1, v1, v2, v3, v4, v5, v6, v7, v8, v9, v10, v11, v12, v13, v14])), (h1, .inr (11, [v15, .int 0]))]) (va_A [(h0, .inr (16, [v0, .ref h1, v1, v2, v3, v4, v5, v6, v7, v8, v9, v10, v11, v12, v13, v14])), (h1, .inr (11, [v15, .int 0]))] sz)) 0 0 (va_A [(h0, .inr (16, [v0, .ref h1, v1, v2, v3, v4, v5, v6, v7, v8, v9, v10, v11, v12, v13, v14])), (h1, .inr (11, [v15, .int 0]))] sz) := by
  refine Met.ofW (cc := cX9_stateOf) (maxL := 2) (ret := (some .int)) (by decide) rfl ?_
  intro p e s m args below meth c s₁ B hml hv
  obtain ⟨rfl, hsz, hP, hK, hD0, hF⟩ := hv
  have hx := B.exec
  have hb := B.bytes
  have hr := B.returns
  have hts := atoms_spec (ws := wsX9_stateOf) B.pre
  have hown : s.vm.findClass RX9 = some m.cls := findClass_of_methodNamed B.named
  have hlocks := B.notSynchronized
  subst hsz
  have hD := hD0.self (sz := s.heap.size)
  generalize hAe : va_A [(h0, .inr (16, [v0, .ref h1, v1, v2, v3, v4, v5, v6, v7, v8, v9, v10, v11, v12, v13, v14])), (h1, .inr (11, [v15, .int 0]))] s.heap.size = A at hD hF ⊢
  have hA : ∀ q : Nat, s.heap.size ≤ q → A q := fun q h => by rw [← hAe]; exact Or.inr h
  have hS : va_S A s.heap s.heap [] := va_S.rf
  have hP : va_P (dC, dI) vwCl [(h0, .inr (16, [v0, .ref h1, v1, v2, v3, v4, v5, v6, v7, v8, v9, v10, v11, v12, v13, v14])), (h1, .inr (11, [v15, .int 0]))] s.heap := hP
  have hl := lv_entry ([.ref h0, .int 3]) (n := 2) (Nat.le_of_ble_eq_true rfl)
  rw [lg_entry_eq]
  generalize (lg_sl ([.ref h0, .int 3]) ++ List.replicate (2 - (lg_sl ([.ref h0, .int 3])).length) Slot.unset).toArray = ls at hl ⊢
  have hl : lv_has ls 2 [(0, .ref h0), (1, .int 3)] := hl
  refine lv_iload_n hx hb dX9_stateOf_0 rfl (lv_at hl 1 rfl) ?_
  refine lv_tableIn (off := 61) (tgt := 62) hx hb dX9_stateOf_1 (by decide) (by decide) (by decide) (by decide) ?_
  refine lv_aload_n hx hb dX9_stateOf_62 rfl (lv_at hl 0 rfl) ?_
  refine va_get (D := (dC, dI)) (ci := 16) (v := .ref h1) (C := RX9) (T := TX9) (N := 16) hx hb hts (by decide +kernel) hown hK hP 0 rfl rfl 1 (by decide) (hts (.fieldLink RX9 21 "Nestprint" "typed" "LNestprint$Row;") (by decide +kernel)) (fun _ h9 => h9) rfl dX9_stateOf_63 ?_
  have hPc := hP.sub (ws' := [(h1, .inr (11, [v15, .int 0]))]) [1] rfl
  have hDc := hD.sub (ws' := [(h1, .inr (11, [v15, .int 0]))]) [1] (by decide) rfl
  have hKc := hK.sub (tys' := []) [] rfl
  have hFc := va_free (wc := [(h1, .inr (11, [v15, .int 0]))]) hD hS hA [1] rfl
  refine va_calli (va_runV (As := []) (rest := []) ⟨hx, hb, hml, hown, hts⟩ (kX4_size l dC dI g s.heap.size h1 v15 ) (cwV 0 hts gX9_stateOf_X4_size rfl rfl rfl (by decide +kernel) ⟨Nat.le_of_ble_eq_true rfl, Nat.le_of_ble_eq_true rfl⟩) ⟨fun a U gg mk q => by obtain ⟨q0, q1, qP, qK, qD, qF⟩ := q; exact ⟨q0, q1, qP, va_K.moved (u := U) (U := U.calling gg mk a) (Vm.Alike.refl U.vm) qK, qD, ns_same qF⟩, va_recv hK hP (ci := 11) (q0 := 1) rfl rfl, fun U hU hW => ⟨rfl, by rw [hU], by rw [hU]; exact hPc, va_K.moved hW.alike hKc, hDc.weaken (fun _ _ _ _ => trivial), ns_call hF hS hFc hU hW⟩⟩ rfl rfl hl.1 rfl (lv_room (Nat.le_of_ble_eq_true rfl)) dX9_stateOf_66 ⟨Nat.le_of_ble_eq_true rfl, Nat.le_of_ble_eq_true rfl⟩) hS (fun q _ h => hFc q h) hFc (fun r9 u t H1 locs ht hvm hw hB hz1 hk1 hS => ?_)
  obtain rfl := hw
  obtain ⟨hP1, hK1, hD1⟩ := hB
  rw [ht] at hP1
  have hK1 := va_K.moved hvm.symm hK1
  obtain ⟨hP, hD⟩ := va_join (wr := [(h0, .inr (16, [v0, .ref h1, v1, v2, v3, v4, v5, v6, v7, v8, v9, v10, v11, v12, v13, v14]))]) (w1 := [(h1, .inr (11, [v15, .int 0]))]) hP hD [1] [0] rfl rfl (by decide) (by decide) hk1 hFc hP1 hD1
  have hK := (hK.sub (tys' := []) [] rfl).app hK1
  generalize H1 = H at hP hS ⊢
  have hP : va_P (dC, dI) vwCl [(h0, .inr (16, [v0, .ref h1, v1, v2, v3, v4, v5, v6, v7, v8, v9, v10, v11, v12, v13, v14])), (h1, .inr (11, [v15, .int 0]))] H := hP
  have hD : va_D A [(h0, .inr (16, [v0, .ref h1, v1, v2, v3, v4, v5, v6, v7, v8, v9, v10, v11, v12, v13, v14])), (h1, .inr (11, [v15, .int 0]))] := hD
  have hK : va_K (dC, dI) vwCl [] s := hK
  refine W.widen (k := 0) (n := 0) (Nat.le_of_ble_eq_true rfl) (Nat.le_of_ble_eq_true rfl) ?_
  have hP9 := hP.sub (ws' := [(h0, .inr (16, [v0, .ref h1, v1, v2, v3, v4, v5, v6, v7, v8, v9, v10, v11, v12, v13, v14])), (h1, .inr (11, [v15, .int 0]))]) [0, 1] rfl
  have hD9 := hD.sub (ws' := [(h0, .inr (16, [v0, .ref h1, v1, v2, v3, v4, v5, v6, v7, v8, v9, v10, v11, v12, v13, v14])), (h1, .inr (11, [v15, .int 0]))]) [0, 1] (by decide) rfl
  have hK9 := hK.sub (tys' := []) [] rfl
  refine W.widen (k := 0) (n := 0) (Nat.le_of_ble_eq_true rfl) (Nat.le_of_ble_eq_true rfl) ?_
  exact W.iret (v := 0) hx hb hr (fun t ht hW => ⟨⟨_, (), rfl, rfl, by rw [ht]; exact hP9, va_K.moved hW.alike hK9, hD9⟩, hS.F ht⟩) hS.2.2 dX9_stateOf_69
set_option maxHeartbeats 4000000 in
set_option maxRecDepth 100000 in
theorem kX9_house_5 (l : Launch) (dC : Nat → ClassId) (dI : Nat → Nat → Nat) (g : Nat → Nat) (sz : Nat) (h0 : Nat) (h1 : Nat) (v0 : Value) (v1 : Value) (v2 : Value) (v3 : Value) (v4 : Value) (v5 : Value) (v6 : Value) (v7 : Value) (v8 : Value) (v9 : Value) (v10 : Value) (v11 : Value) (v12 : Value) (v13 : Value) (v14 : Value) (v15 : Value) : Met l yX9_house wsX9_house ({ frames := 2, cells := 0, slots := 0, locals := 41 }) (va_Pc [.ref h0, .int 3] (fun U => U.heap.size = sz ∧ va_P (dC, dI) vwCl [(h0, .inr (16, [v0, .ref h1, v1, v2, v3, v4, v5, v6, v7, v8, v9, v10, v11, v12, v13, v14])), (h1, .inr (11, [v15, .int 0]))] U.heap ∧ va_K (dC, dI) vwCl [] U ∧ va_D (fun _ => True) [(h0, .inr (16, [v0, .ref h1, v1, v2, v3, v4, v5, v6, v7, v8, v9, v10, v11, v12, v13, v14])), (h1, .inr (11, [v15, .int 0]))] ∧ ns_F g (va_A [(h0, .inr (16, [v0, .ref h1, v1, v2, v3, v4, v5, v6, v7, v8, v9, v10, v11, v12, v13, v14])), (h1, .inr (11, [v15, .int 0]))] sz) U U.heap)) (va_Qi (fun (r : Int32) (_ : Unit) => r = 0) (fun _ t => va_P (dC, dI) vwCl [(h0, .inr (16, [v0, .ref h1, v1, v2, v3, v4, v5, v6, v7, v8, v9, v10, v11, v12, v13, v14])), (h1, .inr (11, [v15, .int 0]))] t.heap ∧ va_K (dC, dI) vwCl [] t ∧ va_D (va_A [(h0, .inr (16, [v0, .ref h1, v1, v2, v3, v4, v5, v6, v7, v8, v9, v10, v11, v12, v13, v14])), (h1, .inr (11, [v15, .int 0]))] sz) [(h0, .inr (16, [v0, .ref h1, v1, v2, v3, v4, v5, v6, v7, v8, v9, v10, v11, v12, v13, v14])), (h1, .inr (11, [v15, .int 0]))]) (va_A [(h0, .inr (16, [v0, .ref h1, v1, v2, v3, v4, v5, v6, v7, v8, v9, v10, v11, v12, v13, v14])), (h1, .inr (11, [v15, .int 0]))] sz)) 0 0 (va_A [(h0, .inr (16, [v0, .ref h1, v1, v2, v3, v4, v5, v6, v7, v8, v9, v10, v11, v12, v13, v14])), (h1, .inr (11, [v15, .int 0]))] sz) := by
  refine Met.ofW (cc := cX9_house) (maxL := 2) (ret := (some .int)) (by decide) rfl ?_
  intro p e s m args below meth c s₁ B hml hv
  obtain ⟨rfl, hsz, hP, hK, hD0, hF⟩ := hv
  have hx := B.exec
  have hb := B.bytes
  have hr := B.returns
  have hts := atoms_spec (ws := wsX9_house) B.pre
  have hown : s.vm.findClass RX9 = some m.cls := findClass_of_methodNamed B.named
  have hlocks := B.notSynchronized
  subst hsz
  have hD := hD0.self (sz := s.heap.size)
  generalize hAe : va_A [(h0, .inr (16, [v0, .ref h1, v1, v2, v3, v4, v5, v6, v7, v8, v9, v10, v11, v12, v13, v14])), (h1, .inr (11, [v15, .int 0]))] s.heap.size = A at hD hF ⊢
  have hA : ∀ q : Nat, s.heap.size ≤ q → A q := fun q h => by rw [← hAe]; exact Or.inr h
  have hS : va_S A s.heap s.heap [] := va_S.rf
  have hP : va_P (dC, dI) vwCl [(h0, .inr (16, [v0, .ref h1, v1, v2, v3, v4, v5, v6, v7, v8, v9, v10, v11, v12, v13, v14])), (h1, .inr (11, [v15, .int 0]))] s.heap := hP
  have hl := lv_entry ([.ref h0, .int 3]) (n := 2) (Nat.le_of_ble_eq_true rfl)
  rw [lg_entry_eq]
  generalize (lg_sl ([.ref h0, .int 3]) ++ List.replicate (2 - (lg_sl ([.ref h0, .int 3])).length) Slot.unset).toArray = ls at hl ⊢
  have hl : lv_has ls 2 [(0, .ref h0), (1, .int 3)] := hl
  refine lv_iload_n hx hb dX9_house_0 rfl (lv_at hl 1 rfl) ?_
  refine lv_if_lt (tgt := 10) hx hb dX9_house_1 (by decide) (fun c1 => absurd c1 (by decide)) (fun c1 => ?_)
  refine lv_iload_n hx hb dX9_house_4 rfl (lv_at hl 1 rfl) ?_
  refine lv_bipush (v := 7) hx hb dX9_house_5 (by decide) ?_
  refine lv_icmp_le (tgt := 20) hx hb dX9_house_7 (by decide) (fun c2 => ?_) (fun c2 => absurd (by decide) c2)
  refine lv_aload_n hx hb dX9_house_20 rfl (lv_at hl 0 rfl) ?_
  refine lv_iload_n hx hb dX9_house_21 rfl (lv_at hl 1 rfl) ?_
  have hPc := hP.sub (ws' := [(h0, .inr (16, [v0, .ref h1, v1, v2, v3, v4, v5, v6, v7, v8, v9, v10, v11, v12, v13, v14])), (h1, .inr (11, [v15, .int 0]))]) [0, 1] rfl
  have hDc := hD.sub (ws' := [(h0, .inr (16, [v0, .ref h1, v1, v2, v3, v4, v5, v6, v7, v8, v9, v10, v11, v12, v13, v14])), (h1, .inr (11, [v15, .int 0]))]) [0, 1] (by decide) rfl
  have hKc := hK.sub (tys' := []) [] rfl
  have hFc := va_free (wc := [(h0, .inr (16, [v0, .ref h1, v1, v2, v3, v4, v5, v6, v7, v8, v9, v10, v11, v12, v13, v14])), (h1, .inr (11, [v15, .int 0]))]) hD hS hA [0, 1] rfl
  refine va_calli (va_runV (As := [.int 3]) (rest := []) ⟨hx, hb, hml, hown, hts⟩ (kX9_stateOf_4 l dC dI g s.heap.size h0 h1 v0 v1 v2 v3 v4 v5 v6 v7 v8 v9 v10 v11 v12 v13 v14 v15 ) (cwV 1 hts gX9_house_X9_stateOf rfl rfl rfl (by decide +kernel) ⟨Nat.le_of_ble_eq_true rfl, Nat.le_of_ble_eq_true rfl⟩) ⟨fun a U gg mk q => by obtain ⟨q0, q1, qP, qK, qD, qF⟩ := q; exact ⟨q0, q1, qP, va_K.moved (u := U) (U := U.calling gg mk a) (Vm.Alike.refl U.vm) qK, qD, ns_same qF⟩, va_recv hK hP (ci := 16) (q0 := 0) rfl rfl, fun U hU hW => ⟨rfl, by rw [hU], by rw [hU]; exact hPc, va_K.moved hW.alike hKc, hDc.weaken (fun _ _ _ _ => trivial), ns_call hF hS hFc hU hW⟩⟩ rfl rfl hl.1 rfl (lv_room (Nat.le_of_ble_eq_true rfl)) dX9_house_22 ⟨Nat.le_of_ble_eq_true rfl, Nat.le_of_ble_eq_true rfl⟩) hS (fun q _ h => hFc q h) hFc (fun r9 u t H1 locs ht hvm hw hB hz1 hk1 hS => ?_)
  obtain rfl := hw
  obtain ⟨hP1, hK1, hD1⟩ := hB
  rw [ht] at hP1
  have hK1 := va_K.moved hvm.symm hK1
  obtain ⟨hP, hD⟩ := va_join (wr := []) (w1 := [(h0, .inr (16, [v0, .ref h1, v1, v2, v3, v4, v5, v6, v7, v8, v9, v10, v11, v12, v13, v14])), (h1, .inr (11, [v15, .int 0]))]) hP hD [0, 1] [] rfl rfl (by decide) (by decide) hk1 hFc hP1 hD1
  have hK := (hK.sub (tys' := []) [] rfl).app hK1
  generalize H1 = H at hP hS ⊢
  have hP : va_P (dC, dI) vwCl [(h0, .inr (16, [v0, .ref h1, v1, v2, v3, v4, v5, v6, v7, v8, v9, v10, v11, v12, v13, v14])), (h1, .inr (11, [v15, .int 0]))] H := hP
  have hD : va_D A [(h0, .inr (16, [v0, .ref h1, v1, v2, v3, v4, v5, v6, v7, v8, v9, v10, v11, v12, v13, v14])), (h1, .inr (11, [v15, .int 0]))] := hD
  have hK : va_K (dC, dI) vwCl [] s := hK
  refine W.widen (k := 0) (n := 0) (Nat.le_of_ble_eq_true rfl) (Nat.le_of_ble_eq_true rfl) ?_
  have hP9 := hP.sub (ws' := [(h0, .inr (16, [v0, .ref h1, v1, v2, v3, v4, v5, v6, v7, v8, v9, v10, v11, v12, v13, v14])), (h1, .inr (11, [v15, .int 0]))]) [0, 1] rfl
  have hD9 := hD.sub (ws' := [(h0, .inr (16, [v0, .ref h1, v1, v2, v3, v4, v5, v6, v7, v8, v9, v10, v11, v12, v13, v14])), (h1, .inr (11, [v15, .int 0]))]) [0, 1] (by decide) rfl
  have hK9 := hK.sub (tys' := []) [] rfl
  refine W.widen (k := 0) (n := 0) (Nat.le_of_ble_eq_true rfl) (Nat.le_of_ble_eq_true rfl) ?_
  exact W.iret (v := 0) hx hb hr (fun t ht hW => ⟨⟨_, (), rfl, rfl, by rw [ht]; exact hP9, va_K.moved hW.alike hK9, hD9⟩, hS.F ht⟩) hS.2.2 dX9_house_25
set_option maxHeartbeats 4000000 in
set_option maxRecDepth 100000 in
theorem kL_house_5 (l : Launch) (dC : Nat → ClassId) (dI : Nat → Nat → Nat) (g : Nat → Nat) (sz : Nat) (h0 : Nat) (h1 : Nat) (h2 : Nat) (v0 : Value) (v1 : Value) (v2 : Value) (v3 : Value) (v4 : Value) (v5 : Value) (v6 : Value) (v7 : Value) (v8 : Value) (v9 : Value) (v10 : Value) (v11 : Value) (v12 : Value) (v13 : Value) (v14 : Value) (v15 : Value) (v16 : Value) (v17 : Value) : Met l yL_house wsL_house ({ frames := 3, cells := 0, slots := 0, locals := 62 }) (va_Pc [.ref h0, .int 3, .ref h1] (fun U => U.heap.size = sz ∧ va_P (dC, dI) vwCl [(h0, .inr (16, [v0, .ref h2, v1, v2, v3, v4, v5, v6, v7, v8, v9, v10, v11, v12, v13, v14])), (h2, .inr (11, [v15, .int 0])), (h1, .inr (17, [v16, v17]))] U.heap ∧ va_K (dC, dI) vwCl [] U ∧ va_D (fun _ => True) [(h0, .inr (16, [v0, .ref h2, v1, v2, v3, v4, v5, v6, v7, v8, v9, v10, v11, v12, v13, v14])), (h2, .inr (11, [v15, .int 0])), (h1, .inr (17, [v16, v17]))] ∧ ns_F g (va_A [(h0, .inr (16, [v0, .ref h2, v1, v2, v3, v4, v5, v6, v7, v8, v9, v10, v11, v12, v13, v14])), (h2, .inr (11, [v15, .int 0])), (h1, .inr (17, [v16, v17]))] sz) U U.heap)) (va_Qi (fun (r : Int32) (_ : Unit) => r = 0) (fun _ t => va_P (dC, dI) vwCl [(h1, .inr (17, [.long 0, v17])), (h0, .inr (16, [v0, .ref h2, v1, v2, v3, v4, v5, v6, v7, v8, v9, v10, v11, v12, v13, v14])), (h2, .inr (11, [v15, .int 0]))] t.heap ∧ va_K (dC, dI) vwCl [] t ∧ va_D (va_A [(h0, .inr (16, [v0, .ref h2, v1, v2, v3, v4, v5, v6, v7, v8, v9, v10, v11, v12, v13, v14])), (h2, .inr (11, [v15, .int 0])), (h1, .inr (17, [v16, v17]))] sz) [(h1, .inr (17, [.long 0, v17])), (h0, .inr (16, [v0, .ref h2, v1, v2, v3, v4, v5, v6, v7, v8, v9, v10, v11, v12, v13, v14])), (h2, .inr (11, [v15, .int 0]))]) (va_A [(h0, .inr (16, [v0, .ref h2, v1, v2, v3, v4, v5, v6, v7, v8, v9, v10, v11, v12, v13, v14])), (h2, .inr (11, [v15, .int 0])), (h1, .inr (17, [v16, v17]))] sz)) 0 0 (va_A [(h0, .inr (16, [v0, .ref h2, v1, v2, v3, v4, v5, v6, v7, v8, v9, v10, v11, v12, v13, v14])), (h2, .inr (11, [v15, .int 0])), (h1, .inr (17, [v16, v17]))] sz) := by
  refine va_MetW (cc := cL_house) (maxL := 4) (ret := (some .int)) (hh := [(0, 10, 13, 19)]) (by decide) rfl ?_
  intro p e s m args below meth c s₁ B hml hv
  obtain ⟨rfl, hsz, hP, hK, hD0, hF⟩ := hv
  have hx := B.exec
  have hb := B.bytes
  have hr := B.returns
  have hts := atoms_spec (ws := wsL_house) B.pre
  have hown : s.vm.findClass RL = some m.cls := findClass_of_methodNamed B.named
  have hlocks := B.notSynchronized
  have htab : c.exceptionTable.toList = [⟨0, 10, 13, 19⟩] := vx_table B (hts _ List.mem_cons_self)
  subst hsz
  have hD := hD0.self (sz := s.heap.size)
  generalize hAe : va_A [(h0, .inr (16, [v0, .ref h2, v1, v2, v3, v4, v5, v6, v7, v8, v9, v10, v11, v12, v13, v14])), (h2, .inr (11, [v15, .int 0])), (h1, .inr (17, [v16, v17]))] s.heap.size = A at hD hF ⊢
  have hA : ∀ q : Nat, s.heap.size ≤ q → A q := fun q h => by rw [← hAe]; exact Or.inr h
  have hS : va_S A s.heap s.heap [] := va_S.rf
  have hP : va_P (dC, dI) vwCl [(h0, .inr (16, [v0, .ref h2, v1, v2, v3, v4, v5, v6, v7, v8, v9, v10, v11, v12, v13, v14])), (h2, .inr (11, [v15, .int 0])), (h1, .inr (17, [v16, v17]))] s.heap := hP
  have hl := lv_entry ([.ref h0, .int 3, .ref h1]) (n := 4) (Nat.le_of_ble_eq_true rfl)
  rw [lg_entry_eq]
  generalize (lg_sl ([.ref h0, .int 3, .ref h1]) ++ List.replicate (4 - (lg_sl ([.ref h0, .int 3, .ref h1])).length) Slot.unset).toArray = ls at hl ⊢
  have hl : lv_has ls 4 [(0, .ref h0), (1, .int 3), (2, .ref h1)] := hl
  refine lv_aload_n hx hb dL_house_0 rfl (lv_at hl 2 rfl) ?_
  refine lv_aload_n hx hb dL_house_1 rfl (lv_at hl 0 rfl) ?_
  refine lv_iload_n hx hb dL_house_2 rfl (lv_at hl 1 rfl) ?_
  have hPc := hP.sub (ws' := [(h0, .inr (16, [v0, .ref h2, v1, v2, v3, v4, v5, v6, v7, v8, v9, v10, v11, v12, v13, v14])), (h2, .inr (11, [v15, .int 0]))]) [0, 1] rfl
  have hDc := hD.sub (ws' := [(h0, .inr (16, [v0, .ref h2, v1, v2, v3, v4, v5, v6, v7, v8, v9, v10, v11, v12, v13, v14])), (h2, .inr (11, [v15, .int 0]))]) [0, 1] (by decide) rfl
  have hKc := hK.sub (tys' := []) [] rfl
  have hFc := va_free (wc := [(h0, .inr (16, [v0, .ref h2, v1, v2, v3, v4, v5, v6, v7, v8, v9, v10, v11, v12, v13, v14])), (h2, .inr (11, [v15, .int 0]))]) hD hS hA [0, 1] rfl
  refine va_calli (va_runV (As := [.int 3]) (rest := [.ref h1]) ⟨hx, hb, hml, hown, hts⟩ (kX9_house_5 l dC dI g s.heap.size h0 h2 v0 v1 v2 v3 v4 v5 v6 v7 v8 v9 v10 v11 v12 v13 v14 v15 ) (cwV 1 hts gL_house_X9_house rfl rfl rfl (by decide +kernel) ⟨Nat.le_of_ble_eq_true rfl, Nat.le_of_ble_eq_true rfl⟩) ⟨fun a U gg mk q => by obtain ⟨q0, q1, qP, qK, qD, qF⟩ := q; exact ⟨q0, q1, qP, va_K.moved (u := U) (U := U.calling gg mk a) (Vm.Alike.refl U.vm) qK, qD, ns_same qF⟩, va_recv hK hP (ci := 16) (q0 := 0) rfl rfl, fun U hU hW => ⟨rfl, by rw [hU], by rw [hU]; exact hPc, va_K.moved hW.alike hKc, hDc.weaken (fun _ _ _ _ => trivial), ns_call hF hS hFc hU hW⟩⟩ rfl rfl hl.1 rfl (lv_room (Nat.le_of_ble_eq_true rfl)) dL_house_3 ⟨Nat.le_of_ble_eq_true rfl, Nat.le_of_ble_eq_true rfl⟩) hS (fun q _ h => hFc q h) hFc (fun r9 u t H1 locs ht hvm hw hB hz1 hk1 hS => ?_)
  obtain rfl := hw
  obtain ⟨hP1, hK1, hD1⟩ := hB
  rw [ht] at hP1
  have hK1 := va_K.moved hvm.symm hK1
  obtain ⟨hP, hD⟩ := va_join (wr := [(h1, .inr (17, [v16, v17]))]) (w1 := [(h0, .inr (16, [v0, .ref h2, v1, v2, v3, v4, v5, v6, v7, v8, v9, v10, v11, v12, v13, v14])), (h2, .inr (11, [v15, .int 0]))]) hP hD [0, 1] [2] rfl rfl (by decide) (by decide) hk1 hFc hP1 hD1
  have hK := (hK.sub (tys' := []) [] rfl).app hK1
  generalize H1 = H at hP hS ⊢
  have hP : va_P (dC, dI) vwCl [(h1, .inr (17, [v16, v17])), (h0, .inr (16, [v0, .ref h2, v1, v2, v3, v4, v5, v6, v7, v8, v9, v10, v11, v12, v13, v14])), (h2, .inr (11, [v15, .int 0]))] H := hP
  have hD : va_D A [(h1, .inr (17, [v16, v17])), (h0, .inr (16, [v0, .ref h2, v1, v2, v3, v4, v5, v6, v7, v8, v9, v10, v11, v12, v13, v14])), (h2, .inr (11, [v15, .int 0]))] := hD
  have hK : va_K (dC, dI) vwCl [] s := hK
  refine W.widen (k := 0) (n := 0) (Nat.le_of_ble_eq_true rfl) (Nat.le_of_ble_eq_true rfl) ?_
  refine lv_i2l (v := 0) hx hb dL_house_6 (by decide) ?_
  refine va_putN (D := (dC, dI)) (ci := 17) (v := .long 0) (ty := .long) (C := RX10) (T := TX10) (N := 2) hx hb hts (by decide +kernel) tyX10 tyX10_ok nmX10 hown hK hP hD hS 0 rfl rfl 0 (by decide) (va_Nw.use rfl (ns_f7 hF)) (fun _ h9 => h9) rfl (by decide +kernel) rfl rfl (Nat.le_of_ble_eq_true rfl) dL_house_7 (fun H locs hP hD hS => ?_)
  have hP : va_P (dC, dI) vwCl [(h1, .inr (17, [.long 0, v17])), (h0, .inr (16, [v0, .ref h2, v1, v2, v3, v4, v5, v6, v7, v8, v9, v10, v11, v12, v13, v14])), (h2, .inr (11, [v15, .int 0]))] H := hP
  have hD : va_D A [(h1, .inr (17, [.long 0, v17])), (h0, .inr (16, [v0, .ref h2, v1, v2, v3, v4, v5, v6, v7, v8, v9, v10, v11, v12, v13, v14])), (h2, .inr (11, [v15, .int 0]))] := hD
  refine lv_goto (tgt := 16) hx hb dL_house_10 (by decide) ?_
  refine lv_iconst (v := 0) hx hb dL_house_16 (by decide) ?_
  have hP9 := hP.sub (ws' := [(h1, .inr (17, [.long 0, v17])), (h0, .inr (16, [v0, .ref h2, v1, v2, v3, v4, v5, v6, v7, v8, v9, v10, v11, v12, v13, v14])), (h2, .inr (11, [v15, .int 0]))]) [0, 1, 2] rfl
  have hD9 := hD.sub (ws' := [(h1, .inr (17, [.long 0, v17])), (h0, .inr (16, [v0, .ref h2, v1, v2, v3, v4, v5, v6, v7, v8, v9, v10, v11, v12, v13, v14])), (h2, .inr (11, [v15, .int 0]))]) [0, 1, 2] (by decide) rfl
  have hK9 := hK.sub (tys' := []) [] rfl
  refine W.widen (k := 0) (n := 0) (Nat.le_of_ble_eq_true rfl) (Nat.le_of_ble_eq_true rfl) ?_
  exact W.iret (v := 0) hx hb hr (fun t ht hW => ⟨⟨_, (), rfl, rfl, by rw [ht]; exact hP9, va_K.moved hW.alike hK9, hD9⟩, hS.F ht⟩) hS.2.2 dL_house_17
set_option maxHeartbeats 4000000 in
set_option maxRecDepth 100000 in
theorem kX16_isIn_19 (l : Launch) (dC : Nat → ClassId) (dI : Nat → Nat → Nat) (g : Nat → Nat) (sz : Nat)  : Met l yX16_isIn wsX16_isIn ({ frames := 0, cells := 0, slots := 0, locals := 0 }) (va_Pc [.int 3, .int 0, .int 7] (fun U => U.heap.size = sz ∧ va_P (dC, dI) vwCl [] U.heap ∧ va_K (dC, dI) vwCl [] U ∧ va_D (fun _ => True) [] ∧ ns_F g (va_A [] sz) U U.heap)) (va_Qi (fun (r : Int32) (_ : Unit) => r = 1) (fun _ t => va_P (dC, dI) vwCl [] t.heap ∧ va_K (dC, dI) vwCl [] t ∧ va_D (va_A [] sz) []) (va_A [] sz)) 0 0 (va_A [] sz) := by
  refine Met.ofW (cc := cX16_isIn) (maxL := 3) (ret := (some .boolean)) (by decide) rfl ?_
  intro p e s m args below meth c s₁ B hml hv
  obtain ⟨rfl, hsz, hP, hK, hD0, hF⟩ := hv
  have hx := B.exec
  have hb := B.bytes
  have hr := B.returns
  have hts := atoms_spec (ws := wsX16_isIn) B.pre
  have hown : s.vm.findClass RX16 = some m.cls := findClass_of_methodNamed B.named
  have hlocks := B.notSynchronized
  subst hsz
  have hD := hD0.self (sz := s.heap.size)
  generalize hAe : va_A [] s.heap.size = A at hD hF ⊢
  have hA : ∀ q : Nat, s.heap.size ≤ q → A q := fun q h => by rw [← hAe]; exact Or.inr h
  have hS : va_S A s.heap s.heap [] := va_S.rf
  have hP : va_P (dC, dI) vwCl [] s.heap := hP
  have hl := lv_entry ([.int 3, .int 0, .int 7]) (n := 3) (Nat.le_of_ble_eq_true rfl)
  rw [lg_entry_eq]
  generalize (lg_sl ([.int 3, .int 0, .int 7]) ++ List.replicate (3 - (lg_sl ([.int 3, .int 0, .int 7])).length) Slot.unset).toArray = ls at hl ⊢
  have hl : lv_has ls 3 [(0, .int 3), (1, .int 0), (2, .int 7)] := hl
  refine lv_iload_n hx hb dX16_isIn_0 rfl (lv_at hl 0 rfl) ?_
  refine lv_iload_n hx hb dX16_isIn_1 rfl (lv_at hl 1 rfl) ?_
  refine lv_icmp_lt (tgt := 14) hx hb dX16_isIn_2 (by decide) (fun c1 => absurd c1 (by decide)) (fun c1 => ?_)
  refine lv_iload_n hx hb dX16_isIn_5 rfl (lv_at hl 0 rfl) ?_
  refine lv_iload_n hx hb dX16_isIn_6 rfl (lv_at hl 2 rfl) ?_
  refine lv_icmp_gt (tgt := 14) hx hb dX16_isIn_7 (by decide) (fun c2 => absurd c2 (by decide)) (fun c2 => ?_)
  refine lv_iconst (v := 1) hx hb dX16_isIn_10 (by decide) ?_
  refine lv_goto (tgt := 15) hx hb dX16_isIn_11 (by decide) ?_
  have hP9 := hP.sub (ws' := []) [] rfl
  have hD9 := hD.sub (ws' := []) [] (by decide) rfl
  have hK9 := hK.sub (tys' := []) [] rfl
  refine W.widen (k := 0) (n := 0) (Nat.le_of_ble_eq_true rfl) (Nat.le_of_ble_eq_true rfl) ?_
  exact W.zret (v := 1) hx hb hr (by decide) (fun t ht hW => ⟨⟨_, (), rfl, rfl, by rw [ht]; exact hP9, va_K.moved hW.alike hK9, hD9⟩, hS.F ht⟩) hS.2.2 dX16_isIn_15
set_option maxHeartbeats 4000000 in
set_option maxRecDepth 100000 in
theorem kX16_houseTold_4 (l : Launch) (dC : Nat → ClassId) (dI : Nat → Nat → Nat) (g : Nat → Nat) (sz : Nat) (h0 : Nat) (h1 : Nat) (v0 : Value) (v1 : Value) (v2 : Value) : Met l yX16_houseTold wsX16_houseTold ({ frames := 3, cells := 2, slots := 12, locals := 53 }) (va_Pc [.ref h0, .int 3] (fun U => U.heap.size = sz ∧ va_P (dC, dI) vwCl [(h0, .inr (23, [v0, .ref h1, .int 20, .int 60, .ref (g 34), v1, .int 0, .int 0, .int 0])), (h1, .inr (6, [.int 0, v2, .int 0]))] U.heap ∧ va_K (dC, dI) vwCl [] U ∧ va_D (fun _ => True) [(h0, .inr (23, [v0, .ref h1, .int 20, .int 60, .ref (g 34), v1, .int 0, .int 0, .int 0])), (h1, .inr (6, [.int 0, v2, .int 0]))] ∧ ns_F g (va_A [(h0, .inr (23, [v0, .ref h1, .int 20, .int 60, .ref (g 34), v1, .int 0, .int 0, .int 0])), (h1, .inr (6, [.int 0, v2, .int 0]))] sz) U U.heap)) (va_Qi (fun (r : Int32) (_ : Unit) => r = 0) (fun _ t => ∃ k0 : Nat, ∃ k1 : Nat, ∃ kc2 : ClassId, va_P (dC, dI) vwCl [(h0, .inr (23, [v0, .ref h1, .int 20, .int 60, .ref (g 34), v1, .int 0, .int 0, .int 0])), (k0, .inr (5, [.int 0, .int (-1), .int 0, .ref h1])), (k1, .inl (kc2, 8, .inl (upd (upd (upd (upd (upd (upd (upd (upd (fun _ => 0) 0 0) 1 20) 2 60) 3 0) 4 0) 5 0) 6 0) 7 0))), (h1, .inr (6, [.int 0, v2, .int 0]))] t.heap ∧ va_K (dC, dI) vwCl [(kc2, .int)] t ∧ va_D (va_A [(h0, .inr (23, [v0, .ref h1, .int 20, .int 60, .ref (g 34), v1, .int 0, .int 0, .int 0])), (h1, .inr (6, [.int 0, v2, .int 0]))] sz) [(h0, .inr (23, [v0, .ref h1, .int 20, .int 60, .ref (g 34), v1, .int 0, .int 0, .int 0])), (k0, .inr (5, [.int 0, .int (-1), .int 0, .ref h1])), (k1, .inl (kc2, 8, .inl (upd (upd (upd (upd (upd (upd (upd (upd (fun _ => 0) 0 0) 1 20) 2 60) 3 0) 4 0) 5 0) 6 0) 7 0))), (h1, .inr (6, [.int 0, v2, .int 0]))]) (va_A [(h0, .inr (23, [v0, .ref h1, .int 20, .int 60, .ref (g 34), v1, .int 0, .int 0, .int 0])), (h1, .inr (6, [.int 0, v2, .int 0]))] sz)) 2 12 (va_A [(h0, .inr (23, [v0, .ref h1, .int 20, .int 60, .ref (g 34), v1, .int 0, .int 0, .int 0])), (h1, .inr (6, [.int 0, v2, .int 0]))] sz) := by
  refine Met.ofW (cc := cX16_houseTold) (maxL := 5) (ret := (some .int)) (by decide) rfl ?_
  intro p e s m args below meth c s₁ B hml hv
  obtain ⟨rfl, hsz, hP, hK, hD0, hF⟩ := hv
  have hx := B.exec
  have hb := B.bytes
  have hr := B.returns
  have hts := atoms_spec (ws := wsX16_houseTold) B.pre
  have hown : s.vm.findClass RX16 = some m.cls := findClass_of_methodNamed B.named
  have hlocks := B.notSynchronized
  subst hsz
  have hD := hD0.self (sz := s.heap.size)
  generalize hAe : va_A [(h0, .inr (23, [v0, .ref h1, .int 20, .int 60, .ref (g 34), v1, .int 0, .int 0, .int 0])), (h1, .inr (6, [.int 0, v2, .int 0]))] s.heap.size = A at hD hF ⊢
  have hA : ∀ q : Nat, s.heap.size ≤ q → A q := fun q h => by rw [← hAe]; exact Or.inr h
  have hS : va_S A s.heap s.heap [] := va_S.rf
  have hP : va_P (dC, dI) vwCl [(h0, .inr (23, [v0, .ref h1, .int 20, .int 60, .ref (g 34), v1, .int 0, .int 0, .int 0])), (h1, .inr (6, [.int 0, v2, .int 0]))] s.heap := hP
  have hl := lv_entry ([.ref h0, .int 3]) (n := 5) (Nat.le_of_ble_eq_true rfl)
  rw [lg_entry_eq]
  generalize (lg_sl ([.ref h0, .int 3]) ++ List.replicate (5 - (lg_sl ([.ref h0, .int 3])).length) Slot.unset).toArray = ls at hl ⊢
  have hl : lv_has ls 5 [(0, .ref h0), (1, .int 3)] := hl
  refine lv_iconst (v := 0) hx hb dX16_houseTold_0 (by decide) ?_
  refine lv_istore_n (lv' := [(2, .int 0), (0, .ref h0), (1, .int 3)]) hx hb dX16_houseTold_1 rfl hl (by decide) rfl (fun ls hl => ?_)
  refine lv_aload_n hx hb dX16_houseTold_2 rfl (lv_at hl 1 rfl) ?_
  refine va_get (D := (dC, dI)) (ci := 23) (v := .ref h1) (C := RX16) (T := TX16) (N := 9) hx hb hts (by decide +kernel) hown hK hP 0 rfl rfl 1 (by decide) (hts (.fieldLink RX16 10 "NestprintModel" "nodes" "Ljava/util/ArrayList;") (by decide +kernel)) (fun _ h9 => h9) rfl dX16_houseTold_3 ?_
  have hPc := hP.sub (ws' := [(h1, .inr (6, [.int 0, v2, .int 0]))]) [1] rfl
  have hDc := hD.sub (ws' := [(h1, .inr (6, [.int 0, v2, .int 0]))]) [1] (by decide) rfl
  have hKc := hK.sub (tys' := []) [] rfl
  have hFc := va_free (wc := [(h1, .inr (6, [.int 0, v2, .int 0]))]) hD hS hA [1] rfl
  refine va_callr (va_runV (As := []) (rest := []) ⟨hx, hb, hml, hown, hts⟩ (kJx4a65c_iterator_32c93 l dC dI g s.heap.size h1 v2 (.int 0) ) (cwV 0 hts gX16_houseTold_Jx4a65c_iterator_32c93 rfl rfl rfl (by decide +kernel) ⟨Nat.le_of_ble_eq_true rfl, Nat.le_of_ble_eq_true rfl⟩) ⟨fun a U gg mk q => by obtain ⟨q0, q1, qP, qK, qD, qF⟩ := q; exact ⟨q0, q1, qP, va_K.moved (u := U) (U := U.calling gg mk a) (Vm.Alike.refl U.vm) qK, qD, ns_same qF⟩, va_recv hK hP (ci := 6) (q0 := 1) rfl rfl, fun U hU hW => ⟨rfl, by rw [hU], by rw [hU]; exact hPc, va_K.moved hW.alike hKc, hDc.weaken (fun _ _ _ _ => trivial), ns_call hF hS hFc hU hW⟩⟩ rfl rfl hl.1 rfl (lv_room (Nat.le_of_ble_eq_true rfl)) dX16_houseTold_6 ⟨Nat.le_of_ble_eq_true rfl, Nat.le_of_ble_eq_true rfl⟩) hS (fun q _ h => hFc q h) hFc (fun u r9 t H1 locs ht hvm hw hB hz1 hk1 hS => ?_)
  obtain ⟨q1, rfl, hP1, hK1, hD1⟩ := hB
  rw [ht] at hP1
  have hK1 := va_K.moved hvm.symm hK1
  obtain ⟨hP, hD⟩ := va_join (wr := [(h0, .inr (23, [v0, .ref h1, .int 20, .int 60, .ref (g 34), v1, .int 0, .int 0, .int 0]))]) (w1 := [(q1, .inr (5, [.int 0, .int (-1), .int 0, .ref h1])), (h1, .inr (6, [.int 0, v2, .int 0]))]) hP hD [1] [0] rfl rfl (by decide) (by decide) hk1 hFc hP1 hD1
  have hK := (hK.sub (tys' := []) [] rfl).app hK1
  generalize H1 = H at hP hS ⊢
  have hP : va_P (dC, dI) vwCl [(h0, .inr (23, [v0, .ref h1, .int 20, .int 60, .ref (g 34), v1, .int 0, .int 0, .int 0])), (q1, .inr (5, [.int 0, .int (-1), .int 0, .ref h1])), (h1, .inr (6, [.int 0, v2, .int 0]))] H := hP
  have hD : va_D A [(h0, .inr (23, [v0, .ref h1, .int 20, .int 60, .ref (g 34), v1, .int 0, .int 0, .int 0])), (q1, .inr (5, [.int 0, .int (-1), .int 0, .ref h1])), (h1, .inr (6, [.int 0, v2, .int 0]))] := hD
  have hK : va_K (dC, dI) vwCl [] s := hK
  refine W.widen (k := 1) (n := 4) (Nat.le_of_ble_eq_true rfl) (Nat.le_of_ble_eq_true rfl) ?_
  refine lv_astore_n (lv' := [(3, .ref q1), (2, .int 0), (0, .ref h0), (1, .int 3)]) hx hb dX16_houseTold_9 rfl hl (by decide) rfl (fun ls hl => ?_)
  refine lv_aload_n hx hb dX16_houseTold_10 rfl (lv_at hl 0 rfl) ?_
  have hPc := hP.sub (ws' := [(q1, .inr (5, [.int 0, .int (-1), .int 0, .ref h1])), (h1, .inr (6, [.int 0, v2, .int 0]))]) [1, 2] rfl
  have hDc := hD.sub (ws' := [(q1, .inr (5, [.int 0, .int (-1), .int 0, .ref h1])), (h1, .inr (6, [.int 0, v2, .int 0]))]) [1, 2] (by decide) rfl
  have hKc := hK.sub (tys' := []) [] rfl
  have hFc := va_free (wc := [(q1, .inr (5, [.int 0, .int (-1), .int 0, .ref h1])), (h1, .inr (6, [.int 0, v2, .int 0]))]) hD hS hA [1, 2] rfl
  refine va_callFi (va_runF (hK.1 5 _ rfl).2 (As := []) (rest := []) ⟨hx, hb, hml, hown, hts⟩ (kJx35411_hasNext_aae02 l dC dI g H.size q1 h1 (.int (-1)) (.int 0) (.int 0) v2 ) (va_cwF 0 hts gX16_houseTold_Jx35411_hasNext_aae02_f133Jx35411 rfl rfl rfl (ns_f51 hF) (by decide +kernel) ⟨Nat.le_of_ble_eq_true rfl, Nat.le_of_ble_eq_true rfl⟩) ⟨fun a U gg mk q => by obtain ⟨q0, q1, qP, qK, qD, qF⟩ := q; exact ⟨q0, q1, qP, va_K.moved (u := U) (U := U.calling gg mk a) (Vm.Alike.refl U.vm) qK, qD, ns_same qF⟩, va_recv hK hP (ci := 5) (q0 := 1) rfl rfl, fun U hU hW => ⟨rfl, by rw [hU], by rw [hU]; exact hPc, va_K.moved hW.alike hKc, hDc.weaken (fun _ _ _ _ => trivial), ns_call hF hS hFc hU hW⟩⟩ rfl rfl hl.1 rfl (lv_room (Nat.le_of_ble_eq_true rfl)) dX16_houseTold_11 ⟨Nat.le_of_ble_eq_true rfl, Nat.le_of_ble_eq_true rfl⟩) hS (fun q _ h => hFc q h) hFc (fun r9 u t H1 locs ht hvm hw hB hz1 hk1 hS => ?_)
  obtain rfl := hw
  obtain ⟨hP1, hK1, hD1⟩ := hB
  rw [ht] at hP1
  have hK1 := va_K.moved hvm.symm hK1
  obtain ⟨hP, hD⟩ := va_join (wr := [(h0, .inr (23, [v0, .ref h1, .int 20, .int 60, .ref (g 34), v1, .int 0, .int 0, .int 0]))]) (w1 := [(q1, .inr (5, [.int 0, .int (-1), .int 0, .ref h1])), (h1, .inr (6, [.int 0, v2, .int 0]))]) hP hD [1, 2] [0] rfl rfl (by decide) (by decide) hk1 hFc hP1 hD1
  have hK := (hK.sub (tys' := []) [] rfl).app hK1
  generalize H1 = H at hP hS ⊢
  have hP : va_P (dC, dI) vwCl [(h0, .inr (23, [v0, .ref h1, .int 20, .int 60, .ref (g 34), v1, .int 0, .int 0, .int 0])), (q1, .inr (5, [.int 0, .int (-1), .int 0, .ref h1])), (h1, .inr (6, [.int 0, v2, .int 0]))] H := hP
  have hD : va_D A [(h0, .inr (23, [v0, .ref h1, .int 20, .int 60, .ref (g 34), v1, .int 0, .int 0, .int 0])), (q1, .inr (5, [.int 0, .int (-1), .int 0, .ref h1])), (h1, .inr (6, [.int 0, v2, .int 0]))] := hD
  have hK : va_K (dC, dI) vwCl [] s := hK
  refine W.widen (k := 1) (n := 4) (Nat.le_of_ble_eq_true rfl) (Nat.le_of_ble_eq_true rfl) ?_
  refine lv_if_eq (tgt := 41) hx hb dX16_houseTold_16 (by decide) (fun c2 => ?_) (fun c2 => absurd (by decide) c2)
  refine lv_bipush (v := 8) hx hb dX16_houseTold_41 (by decide) ?_
  refine va_newa (atype := .int) hx hb (hts (.arrayClass .int) (by decide +kernel)) rfl hK hP hD hS hA (N' := 8) (a0 := (8, .inl (fun _ => 0))) (fun _ => rfl) (by decide) (by decide) (Nat.le_of_ble_eq_true rfl) (Nat.le_of_ble_eq_true rfl) (Nat.le_of_ble_eq_true rfl) dX16_houseTold_43 (fun q3 cyq3 H hK hP hD hS => ?_)
  have hP : va_P (dC, dI) vwCl [(h0, .inr (23, [v0, .ref h1, .int 20, .int 60, .ref (g 34), v1, .int 0, .int 0, .int 0])), (q1, .inr (5, [.int 0, .int (-1), .int 0, .ref h1])), (h1, .inr (6, [.int 0, v2, .int 0])), (q3, .inl (cyq3, 8, .inl (fun _ => 0)))] H := hP
  have hD : va_D A [(h0, .inr (23, [v0, .ref h1, .int 20, .int 60, .ref (g 34), v1, .int 0, .int 0, .int 0])), (q1, .inr (5, [.int 0, .int (-1), .int 0, .ref h1])), (h1, .inr (6, [.int 0, v2, .int 0])), (q3, .inl (cyq3, 8, .inl (fun _ => 0)))] := hD
  have hK : va_K (dC, dI) vwCl [(cyq3, .int)] s := hK
  refine W.widen (k := 2) (n := 12) (Nat.le_of_ble_eq_true rfl) (Nat.le_of_ble_eq_true rfl) ?_
  refine lv_dup hx hb dX16_houseTold_45 rfl ?_
  refine lv_iconst (v := 0) hx hb dX16_houseTold_46 (by decide) ?_
  refine lv_aload_n hx hb dX16_houseTold_47 rfl (lv_at hl 2 rfl) ?_
  refine va_get (D := (dC, dI)) (ci := 23) (v := .ref h1) (C := RX16) (T := TX16) (N := 9) hx hb hts (by decide +kernel) hown hK hP 0 rfl rfl 1 (by decide) (hts (.fieldLink RX16 10 "NestprintModel" "nodes" "Ljava/util/ArrayList;") (by decide +kernel)) (fun _ h9 => h9) rfl dX16_houseTold_48 ?_
  have hPc := hP.sub (ws' := [(h1, .inr (6, [.int 0, v2, .int 0]))]) [2] rfl
  have hDc := hD.sub (ws' := [(h1, .inr (6, [.int 0, v2, .int 0]))]) [2] (by decide) rfl
  have hKc := hK.sub (tys' := []) [] rfl
  have hFc := va_free (wc := [(h1, .inr (6, [.int 0, v2, .int 0]))]) hD hS hA [2] rfl
  refine va_calli (va_runV (As := []) (rest := [.int 0, .ref q3, .ref q3]) ⟨hx, hb, hml, hown, hts⟩ (kJx4a65c_size_8abf5 l dC dI g H.size h1 (.int 0) v2 ) (cwV 0 hts gX16_houseTold_Jx4a65c_size_8abf5 rfl rfl rfl (by decide +kernel) ⟨Nat.le_of_ble_eq_true rfl, Nat.le_of_ble_eq_true rfl⟩) ⟨fun a U gg mk q => by obtain ⟨q0, q1, qP, qK, qD, qF⟩ := q; exact ⟨q0, q1, qP, va_K.moved (u := U) (U := U.calling gg mk a) (Vm.Alike.refl U.vm) qK, qD, ns_same qF⟩, va_recv hK hP (ci := 6) (q0 := 2) rfl rfl, fun U hU hW => ⟨rfl, by rw [hU], by rw [hU]; exact hPc, va_K.moved hW.alike hKc, hDc.weaken (fun _ _ _ _ => trivial), ns_call hF hS hFc hU hW⟩⟩ rfl rfl hl.1 rfl (lv_room (Nat.le_of_ble_eq_true rfl)) dX16_houseTold_51 ⟨Nat.le_of_ble_eq_true rfl, Nat.le_of_ble_eq_true rfl⟩) hS (fun q _ h => hFc q h) hFc (fun r9 u t H1 locs ht hvm hw hB hz1 hk1 hS => ?_)
  obtain rfl := hw
  obtain ⟨hP1, hK1, hD1⟩ := hB
  rw [ht] at hP1
  have hK1 := va_K.moved hvm.symm hK1
  obtain ⟨hP, hD⟩ := va_join (wr := [(h0, .inr (23, [v0, .ref h1, .int 20, .int 60, .ref (g 34), v1, .int 0, .int 0, .int 0])), (q1, .inr (5, [.int 0, .int (-1), .int 0, .ref h1])), (q3, .inl (cyq3, 8, .inl (fun _ => 0)))]) (w1 := [(h1, .inr (6, [.int 0, v2, .int 0]))]) hP hD [2] [0, 1, 3] rfl rfl (by decide) (by decide) hk1 hFc hP1 hD1
  have hK := (hK.sub (tys' := [(cyq3, .int)]) [0] rfl).app hK1
  generalize H1 = H at hP hS ⊢
  have hP : va_P (dC, dI) vwCl [(h0, .inr (23, [v0, .ref h1, .int 20, .int 60, .ref (g 34), v1, .int 0, .int 0, .int 0])), (q1, .inr (5, [.int 0, .int (-1), .int 0, .ref h1])), (q3, .inl (cyq3, 8, .inl (fun _ => 0))), (h1, .inr (6, [.int 0, v2, .int 0]))] H := hP
  have hD : va_D A [(h0, .inr (23, [v0, .ref h1, .int 20, .int 60, .ref (g 34), v1, .int 0, .int 0, .int 0])), (q1, .inr (5, [.int 0, .int (-1), .int 0, .ref h1])), (q3, .inl (cyq3, 8, .inl (fun _ => 0))), (h1, .inr (6, [.int 0, v2, .int 0]))] := hD
  have hK : va_K (dC, dI) vwCl [(cyq3, .int)] s := hK
  refine W.widen (k := 2) (n := 12) (Nat.le_of_ble_eq_true rfl) (Nat.le_of_ble_eq_true rfl) ?_
  refine va_iast hx hb hK hP hD hS 2 0 rfl rfl (vp_in_nI (n := 0) (by decide) (by decide)) dX16_houseTold_54 (fun H locs hP hD hS => ?_)
  have hP : va_P (dC, dI) vwCl [(h0, .inr (23, [v0, .ref h1, .int 20, .int 60, .ref (g 34), v1, .int 0, .int 0, .int 0])), (q1, .inr (5, [.int 0, .int (-1), .int 0, .ref h1])), (q3, .inl (cyq3, 8, .inl (upd (fun _ => 0) 0 0))), (h1, .inr (6, [.int 0, v2, .int 0]))] H := hP
  have hD : va_D A [(h0, .inr (23, [v0, .ref h1, .int 20, .int 60, .ref (g 34), v1, .int 0, .int 0, .int 0])), (q1, .inr (5, [.int 0, .int (-1), .int 0, .ref h1])), (q3, .inl (cyq3, 8, .inl (upd (fun _ => 0) 0 0))), (h1, .inr (6, [.int 0, v2, .int 0]))] := hD
  refine lv_dup hx hb dX16_houseTold_55 rfl ?_
  refine lv_iconst (v := 1) hx hb dX16_houseTold_56 (by decide) ?_
  refine lv_aload_n hx hb dX16_houseTold_57 rfl (lv_at hl 2 rfl) ?_
  refine va_get (D := (dC, dI)) (ci := 23) (v := .int 20) (C := RX16) (T := TX16) (N := 9) hx hb hts (by decide +kernel) hown hK hP 0 rfl rfl 2 (by decide) (hts (.fieldLink RX16 16 "NestprintModel" "width" "I") (by decide +kernel)) (fun _ h9 => h9) rfl dX16_houseTold_58 ?_
  refine va_iast hx hb hK hP hD hS 2 0 rfl rfl (vp_in_nI (n := 1) (by decide) (by decide)) dX16_houseTold_61 (fun H locs hP hD hS => ?_)
  have hP : va_P (dC, dI) vwCl [(h0, .inr (23, [v0, .ref h1, .int 20, .int 60, .ref (g 34), v1, .int 0, .int 0, .int 0])), (q1, .inr (5, [.int 0, .int (-1), .int 0, .ref h1])), (q3, .inl (cyq3, 8, .inl (upd (upd (fun _ => 0) 0 0) 1 20))), (h1, .inr (6, [.int 0, v2, .int 0]))] H := hP
  have hD : va_D A [(h0, .inr (23, [v0, .ref h1, .int 20, .int 60, .ref (g 34), v1, .int 0, .int 0, .int 0])), (q1, .inr (5, [.int 0, .int (-1), .int 0, .ref h1])), (q3, .inl (cyq3, 8, .inl (upd (upd (fun _ => 0) 0 0) 1 20))), (h1, .inr (6, [.int 0, v2, .int 0]))] := hD
  refine lv_dup hx hb dX16_houseTold_62 rfl ?_
  refine lv_iconst (v := 2) hx hb dX16_houseTold_63 (by decide) ?_
  refine lv_aload_n hx hb dX16_houseTold_64 rfl (lv_at hl 2 rfl) ?_
  refine va_get (D := (dC, dI)) (ci := 23) (v := .int 60) (C := RX16) (T := TX16) (N := 9) hx hb hts (by decide +kernel) hown hK hP 0 rfl rfl 3 (by decide) (hts (.fieldLink RX16 20 "NestprintModel" "ribbon" "I") (by decide +kernel)) (fun _ h9 => h9) rfl dX16_houseTold_65 ?_
  refine va_iast hx hb hK hP hD hS 2 0 rfl rfl (vp_in_nI (n := 2) (by decide) (by decide)) dX16_houseTold_68 (fun H locs hP hD hS => ?_)
  have hP : va_P (dC, dI) vwCl [(h0, .inr (23, [v0, .ref h1, .int 20, .int 60, .ref (g 34), v1, .int 0, .int 0, .int 0])), (q1, .inr (5, [.int 0, .int (-1), .int 0, .ref h1])), (q3, .inl (cyq3, 8, .inl (upd (upd (upd (fun _ => 0) 0 0) 1 20) 2 60))), (h1, .inr (6, [.int 0, v2, .int 0]))] H := hP
  have hD : va_D A [(h0, .inr (23, [v0, .ref h1, .int 20, .int 60, .ref (g 34), v1, .int 0, .int 0, .int 0])), (q1, .inr (5, [.int 0, .int (-1), .int 0, .ref h1])), (q3, .inl (cyq3, 8, .inl (upd (upd (upd (fun _ => 0) 0 0) 1 20) 2 60))), (h1, .inr (6, [.int 0, v2, .int 0]))] := hD
  refine lv_dup hx hb dX16_houseTold_69 rfl ?_
  refine lv_iconst (v := 3) hx hb dX16_houseTold_70 (by decide) ?_
  refine lv_aload_n hx hb dX16_houseTold_71 rfl (lv_at hl 2 rfl) ?_
  refine va_get (D := (dC, dI)) (ci := 23) (v := .ref (g 34)) (C := RX16) (T := TX16) (N := 9) hx hb hts (by decide +kernel) hown hK hP 0 rfl rfl 4 (by decide) (hts (.fieldLink RX16 25 "NestprintModel" "typed" "Ljava/lang/String;") (by decide +kernel)) (fun _ h9 => h9) rfl dX16_houseTold_72 ?_
  have hPc := hP.sub (ws' := []) [] rfl
  have hDc := hD.sub (ws' := []) [] (by decide) rfl
  have hKc := hK.sub (tys' := []) [] rfl
  have hFc := va_free (wc := []) hD hS hA [] rfl
  refine va_calli (va_runV (As := []) (rest := [.int 3, .ref q3, .ref q3]) ⟨hx, hb, hml, hown, hts⟩ (kJ0_length_8abf5 l dC dI g H.size  ) (cwV 0 hts gX16_houseTold_J0_length_8abf5 rfl rfl rfl (by decide +kernel) ⟨Nat.le_of_ble_eq_true rfl, Nat.le_of_ble_eq_true rfl⟩) ⟨fun a U gg mk q => by obtain ⟨q0, q1, qP, qK, qD, qF⟩ := q; exact ⟨q0, q1, qP, va_K.moved (u := U) (U := U.calling gg mk a) (Vm.Alike.refl U.vm) qK, qD, ns_same qF⟩, va_Orecv (ns_f37 hF) hS, fun U hU hW => ⟨rfl, by rw [hU], by rw [hU]; exact hPc, va_K.moved hW.alike hKc, hDc.weaken (fun _ _ _ _ => trivial), ns_call hF hS hFc hU hW⟩⟩ rfl rfl hl.1 rfl (lv_room (Nat.le_of_ble_eq_true rfl)) dX16_houseTold_75 ⟨Nat.le_of_ble_eq_true rfl, Nat.le_of_ble_eq_true rfl⟩) hS (fun q _ h => hFc q h) hFc (fun r9 u t H1 locs ht hvm hw hB hz1 hk1 hS => ?_)
  obtain rfl := hw
  obtain ⟨hP1, hK1, hD1⟩ := hB
  rw [ht] at hP1
  have hK1 := va_K.moved hvm.symm hK1
  obtain ⟨hP, hD⟩ := va_join (wr := [(h0, .inr (23, [v0, .ref h1, .int 20, .int 60, .ref (g 34), v1, .int 0, .int 0, .int 0])), (q1, .inr (5, [.int 0, .int (-1), .int 0, .ref h1])), (q3, .inl (cyq3, 8, .inl (upd (upd (upd (fun _ => 0) 0 0) 1 20) 2 60))), (h1, .inr (6, [.int 0, v2, .int 0]))]) (w1 := []) hP hD [] [0, 1, 2, 3] rfl rfl (by decide) (by decide) hk1 hFc hP1 hD1
  have hK := (hK.sub (tys' := [(cyq3, .int)]) [0] rfl).app hK1
  generalize H1 = H at hP hS ⊢
  have hP : va_P (dC, dI) vwCl [(h0, .inr (23, [v0, .ref h1, .int 20, .int 60, .ref (g 34), v1, .int 0, .int 0, .int 0])), (q1, .inr (5, [.int 0, .int (-1), .int 0, .ref h1])), (q3, .inl (cyq3, 8, .inl (upd (upd (upd (fun _ => 0) 0 0) 1 20) 2 60))), (h1, .inr (6, [.int 0, v2, .int 0]))] H := hP
  have hD : va_D A [(h0, .inr (23, [v0, .ref h1, .int 20, .int 60, .ref (g 34), v1, .int 0, .int 0, .int 0])), (q1, .inr (5, [.int 0, .int (-1), .int 0, .ref h1])), (q3, .inl (cyq3, 8, .inl (upd (upd (upd (fun _ => 0) 0 0) 1 20) 2 60))), (h1, .inr (6, [.int 0, v2, .int 0]))] := hD
  have hK : va_K (dC, dI) vwCl [(cyq3, .int)] s := hK
  refine W.widen (k := 2) (n := 12) (Nat.le_of_ble_eq_true rfl) (Nat.le_of_ble_eq_true rfl) ?_
  refine va_iast hx hb hK hP hD hS 2 0 rfl rfl (vp_in_nI (n := 3) (by decide) (by decide)) dX16_houseTold_78 (fun H locs hP hD hS => ?_)
  have hP : va_P (dC, dI) vwCl [(h0, .inr (23, [v0, .ref h1, .int 20, .int 60, .ref (g 34), v1, .int 0, .int 0, .int 0])), (q1, .inr (5, [.int 0, .int (-1), .int 0, .ref h1])), (q3, .inl (cyq3, 8, .inl (upd (upd (upd (upd (fun _ => 0) 0 0) 1 20) 2 60) 3 0))), (h1, .inr (6, [.int 0, v2, .int 0]))] H := hP
  have hD : va_D A [(h0, .inr (23, [v0, .ref h1, .int 20, .int 60, .ref (g 34), v1, .int 0, .int 0, .int 0])), (q1, .inr (5, [.int 0, .int (-1), .int 0, .ref h1])), (q3, .inl (cyq3, 8, .inl (upd (upd (upd (upd (fun _ => 0) 0 0) 1 20) 2 60) 3 0))), (h1, .inr (6, [.int 0, v2, .int 0]))] := hD
  refine lv_dup hx hb dX16_houseTold_79 rfl ?_
  refine lv_iconst (v := 4) hx hb dX16_houseTold_80 (by decide) ?_
  refine lv_aload_n hx hb dX16_houseTold_81 rfl (lv_at hl 2 rfl) ?_
  refine va_get (D := (dC, dI)) (ci := 23) (v := .int 0) (C := RX16) (T := TX16) (N := 9) hx hb hts (by decide +kernel) hown hK hP 0 rfl rfl 6 (by decide) (hts (.fieldLink RX16 272 "NestprintModel" "counted" "I") (by decide +kernel)) (fun _ h9 => h9) rfl dX16_houseTold_82 ?_
  refine va_iast hx hb hK hP hD hS 2 0 rfl rfl (vp_in_nI (n := 4) (by decide) (by decide)) dX16_houseTold_85 (fun H locs hP hD hS => ?_)
  have hP : va_P (dC, dI) vwCl [(h0, .inr (23, [v0, .ref h1, .int 20, .int 60, .ref (g 34), v1, .int 0, .int 0, .int 0])), (q1, .inr (5, [.int 0, .int (-1), .int 0, .ref h1])), (q3, .inl (cyq3, 8, .inl (upd (upd (upd (upd (upd (fun _ => 0) 0 0) 1 20) 2 60) 3 0) 4 0))), (h1, .inr (6, [.int 0, v2, .int 0]))] H := hP
  have hD : va_D A [(h0, .inr (23, [v0, .ref h1, .int 20, .int 60, .ref (g 34), v1, .int 0, .int 0, .int 0])), (q1, .inr (5, [.int 0, .int (-1), .int 0, .ref h1])), (q3, .inl (cyq3, 8, .inl (upd (upd (upd (upd (upd (fun _ => 0) 0 0) 1 20) 2 60) 3 0) 4 0))), (h1, .inr (6, [.int 0, v2, .int 0]))] := hD
  refine lv_dup hx hb dX16_houseTold_86 rfl ?_
  refine lv_iconst (v := 5) hx hb dX16_houseTold_87 (by decide) ?_
  refine lv_aload_n hx hb dX16_houseTold_88 rfl (lv_at hl 2 rfl) ?_
  refine va_get (D := (dC, dI)) (ci := 23) (v := .int 0) (C := RX16) (T := TX16) (N := 9) hx hb hts (by decide +kernel) hown hK hP 0 rfl rfl 7 (by decide) (hts (.fieldLink RX16 275 "NestprintModel" "knocks" "I") (by decide +kernel)) (fun _ h9 => h9) rfl dX16_houseTold_89 ?_
  refine va_iast hx hb hK hP hD hS 2 0 rfl rfl (vp_in_nI (n := 5) (by decide) (by decide)) dX16_houseTold_92 (fun H locs hP hD hS => ?_)
  have hP : va_P (dC, dI) vwCl [(h0, .inr (23, [v0, .ref h1, .int 20, .int 60, .ref (g 34), v1, .int 0, .int 0, .int 0])), (q1, .inr (5, [.int 0, .int (-1), .int 0, .ref h1])), (q3, .inl (cyq3, 8, .inl (upd (upd (upd (upd (upd (upd (fun _ => 0) 0 0) 1 20) 2 60) 3 0) 4 0) 5 0))), (h1, .inr (6, [.int 0, v2, .int 0]))] H := hP
  have hD : va_D A [(h0, .inr (23, [v0, .ref h1, .int 20, .int 60, .ref (g 34), v1, .int 0, .int 0, .int 0])), (q1, .inr (5, [.int 0, .int (-1), .int 0, .ref h1])), (q3, .inl (cyq3, 8, .inl (upd (upd (upd (upd (upd (upd (fun _ => 0) 0 0) 1 20) 2 60) 3 0) 4 0) 5 0))), (h1, .inr (6, [.int 0, v2, .int 0]))] := hD
  refine lv_dup hx hb dX16_houseTold_93 rfl ?_
  refine lv_bipush (v := 6) hx hb dX16_houseTold_94 (by decide) ?_
  refine lv_aload_n hx hb dX16_houseTold_96 rfl (lv_at hl 2 rfl) ?_
  refine va_get (D := (dC, dI)) (ci := 23) (v := .int 0) (C := RX16) (T := TX16) (N := 9) hx hb hts (by decide +kernel) hown hK hP 0 rfl rfl 8 (by decide) (hts (.fieldLink RX16 193 "NestprintModel" "ever" "I") (by decide +kernel)) (fun _ h9 => h9) rfl dX16_houseTold_97 ?_
  refine va_iast hx hb hK hP hD hS 2 0 rfl rfl (vp_in_nI (n := 6) (by decide) (by decide)) dX16_houseTold_100 (fun H locs hP hD hS => ?_)
  have hP : va_P (dC, dI) vwCl [(h0, .inr (23, [v0, .ref h1, .int 20, .int 60, .ref (g 34), v1, .int 0, .int 0, .int 0])), (q1, .inr (5, [.int 0, .int (-1), .int 0, .ref h1])), (q3, .inl (cyq3, 8, .inl (upd (upd (upd (upd (upd (upd (upd (fun _ => 0) 0 0) 1 20) 2 60) 3 0) 4 0) 5 0) 6 0))), (h1, .inr (6, [.int 0, v2, .int 0]))] H := hP
  have hD : va_D A [(h0, .inr (23, [v0, .ref h1, .int 20, .int 60, .ref (g 34), v1, .int 0, .int 0, .int 0])), (q1, .inr (5, [.int 0, .int (-1), .int 0, .ref h1])), (q3, .inl (cyq3, 8, .inl (upd (upd (upd (upd (upd (upd (upd (fun _ => 0) 0 0) 1 20) 2 60) 3 0) 4 0) 5 0) 6 0))), (h1, .inr (6, [.int 0, v2, .int 0]))] := hD
  refine lv_dup hx hb dX16_houseTold_101 rfl ?_
  refine lv_bipush (v := 7) hx hb dX16_houseTold_102 (by decide) ?_
  refine lv_iload_n hx hb dX16_houseTold_104 rfl (lv_at hl 1 rfl) ?_
  refine va_iast hx hb hK hP hD hS 2 0 rfl rfl (vp_in_nI (n := 7) (by decide) (by decide)) dX16_houseTold_105 (fun H locs hP hD hS => ?_)
  have hP : va_P (dC, dI) vwCl [(h0, .inr (23, [v0, .ref h1, .int 20, .int 60, .ref (g 34), v1, .int 0, .int 0, .int 0])), (q1, .inr (5, [.int 0, .int (-1), .int 0, .ref h1])), (q3, .inl (cyq3, 8, .inl (upd (upd (upd (upd (upd (upd (upd (upd (fun _ => 0) 0 0) 1 20) 2 60) 3 0) 4 0) 5 0) 6 0) 7 0))), (h1, .inr (6, [.int 0, v2, .int 0]))] H := hP
  have hD : va_D A [(h0, .inr (23, [v0, .ref h1, .int 20, .int 60, .ref (g 34), v1, .int 0, .int 0, .int 0])), (q1, .inr (5, [.int 0, .int (-1), .int 0, .ref h1])), (q3, .inl (cyq3, 8, .inl (upd (upd (upd (upd (upd (upd (upd (upd (fun _ => 0) 0 0) 1 20) 2 60) 3 0) 4 0) 5 0) 6 0) 7 0))), (h1, .inr (6, [.int 0, v2, .int 0]))] := hD
  refine lv_astore_n (lv' := [(3, .ref q3), (2, .int 0), (0, .ref h0), (1, .int 3)]) hx hb dX16_houseTold_106 rfl hl (by decide) rfl (fun ls hl => ?_)
  refine lv_aload_n hx hb dX16_houseTold_107 rfl (lv_at hl 0 rfl) ?_
  refine lv_iload_n hx hb dX16_houseTold_108 rfl (lv_at hl 3 rfl) ?_
  refine va_iald hx hb hK hP 2 0 rfl rfl (vp_in_nI (n := 3) (by decide) (by decide)) dX16_houseTold_109 ?_
  refine lv_topi (fun y4 ey4 => ?_)
  obtain rfl : y4 = 0 := ey4
  have hP9 := hP.sub (ws' := [(h0, .inr (23, [v0, .ref h1, .int 20, .int 60, .ref (g 34), v1, .int 0, .int 0, .int 0])), (q1, .inr (5, [.int 0, .int (-1), .int 0, .ref h1])), (q3, .inl (cyq3, 8, .inl (upd (upd (upd (upd (upd (upd (upd (upd (fun _ => 0) 0 0) 1 20) 2 60) 3 0) 4 0) 5 0) 6 0) 7 0))), (h1, .inr (6, [.int 0, v2, .int 0]))]) [0, 1, 2, 3] rfl
  have hD9 := hD.sub (ws' := [(h0, .inr (23, [v0, .ref h1, .int 20, .int 60, .ref (g 34), v1, .int 0, .int 0, .int 0])), (q1, .inr (5, [.int 0, .int (-1), .int 0, .ref h1])), (q3, .inl (cyq3, 8, .inl (upd (upd (upd (upd (upd (upd (upd (upd (fun _ => 0) 0 0) 1 20) 2 60) 3 0) 4 0) 5 0) 6 0) 7 0))), (h1, .inr (6, [.int 0, v2, .int 0]))]) [0, 1, 2, 3] (by decide) rfl
  have hK9 := hK.sub (tys' := [(cyq3, .int)]) [0] rfl
  refine W.widen (k := 2) (n := 12) (Nat.le_of_ble_eq_true rfl) (Nat.le_of_ble_eq_true rfl) ?_
  exact W.iret (v := 0) hx hb hr (fun t ht hW => ⟨⟨_, (), rfl, rfl, q1, q3, cyq3, by rw [ht]; exact hP9, va_K.moved hW.alike hK9, hD9⟩, hS.F ht⟩) hS.2.2 dX16_houseTold_110
set_option maxHeartbeats 4000000 in
set_option maxRecDepth 100000 in
theorem kX16_house_5 (l : Launch) (dC : Nat → ClassId) (dI : Nat → Nat → Nat) (g : Nat → Nat) (sz : Nat) (h0 : Nat) (h1 : Nat) (v0 : Value) (v1 : Value) (v2 : Value) : Met l yX16_house wsX16_house ({ frames := 4, cells := 2, slots := 12, locals := 77 }) (va_Pc [.ref h0, .int 3] (fun U => U.heap.size = sz ∧ va_P (dC, dI) vwCl [(h0, .inr (23, [v0, .ref h1, .int 20, .int 60, .ref (g 34), v1, .int 0, .int 0, .int 0])), (h1, .inr (6, [.int 0, v2, .int 0]))] U.heap ∧ va_K (dC, dI) vwCl [] U ∧ va_D (fun _ => True) [(h0, .inr (23, [v0, .ref h1, .int 20, .int 60, .ref (g 34), v1, .int 0, .int 0, .int 0])), (h1, .inr (6, [.int 0, v2, .int 0]))] ∧ ns_F g (va_A [(h0, .inr (23, [v0, .ref h1, .int 20, .int 60, .ref (g 34), v1, .int 0, .int 0, .int 0])), (h1, .inr (6, [.int 0, v2, .int 0]))] sz) U U.heap)) (va_Qi (fun (r : Int32) (_ : Unit) => r = 0) (fun _ t => ∃ k0 : Nat, ∃ k1 : Nat, ∃ kc2 : ClassId, va_P (dC, dI) vwCl [(h0, .inr (23, [.int 0, .ref h1, .int 20, .int 60, .ref (g 34), v1, .int 0, .int 0, .int 0])), (k0, .inr (5, [.int 0, .int (-1), .int 0, .ref h1])), (k1, .inl (kc2, 8, .inl (upd (upd (upd (upd (upd (upd (upd (upd (fun _ => 0) 0 0) 1 20) 2 60) 3 0) 4 0) 5 0) 6 0) 7 0))), (h1, .inr (6, [.int 0, v2, .int 0]))] t.heap ∧ va_K (dC, dI) vwCl [(kc2, .int)] t ∧ va_D (va_A [(h0, .inr (23, [v0, .ref h1, .int 20, .int 60, .ref (g 34), v1, .int 0, .int 0, .int 0])), (h1, .inr (6, [.int 0, v2, .int 0]))] sz) [(h0, .inr (23, [.int 0, .ref h1, .int 20, .int 60, .ref (g 34), v1, .int 0, .int 0, .int 0])), (k0, .inr (5, [.int 0, .int (-1), .int 0, .ref h1])), (k1, .inl (kc2, 8, .inl (upd (upd (upd (upd (upd (upd (upd (upd (fun _ => 0) 0 0) 1 20) 2 60) 3 0) 4 0) 5 0) 6 0) 7 0))), (h1, .inr (6, [.int 0, v2, .int 0]))]) (va_A [(h0, .inr (23, [v0, .ref h1, .int 20, .int 60, .ref (g 34), v1, .int 0, .int 0, .int 0])), (h1, .inr (6, [.int 0, v2, .int 0]))] sz)) 2 12 (va_A [(h0, .inr (23, [v0, .ref h1, .int 20, .int 60, .ref (g 34), v1, .int 0, .int 0, .int 0])), (h1, .inr (6, [.int 0, v2, .int 0]))] sz) := by
  refine Met.ofW (cc := cX16_house) (maxL := 2) (ret := (some .int)) (by decide) rfl ?_
  intro p e s m args below meth c s₁ B hml hv
  obtain ⟨rfl, hsz, hP, hK, hD0, hF⟩ := hv
  have hx := B.exec
  have hb := B.bytes
  have hr := B.returns
  have hts := atoms_spec (ws := wsX16_house) B.pre
  have hown : s.vm.findClass RX16 = some m.cls := findClass_of_methodNamed B.named
  have hlocks := B.notSynchronized
  subst hsz
  have hD := hD0.self (sz := s.heap.size)
  generalize hAe : va_A [(h0, .inr (23, [v0, .ref h1, .int 20, .int 60, .ref (g 34), v1, .int 0, .int 0, .int 0])), (h1, .inr (6, [.int 0, v2, .int 0]))] s.heap.size = A at hD hF ⊢
  have hA : ∀ q : Nat, s.heap.size ≤ q → A q := fun q h => by rw [← hAe]; exact Or.inr h
  have hS : va_S A s.heap s.heap [] := va_S.rf
  have hP : va_P (dC, dI) vwCl [(h0, .inr (23, [v0, .ref h1, .int 20, .int 60, .ref (g 34), v1, .int 0, .int 0, .int 0])), (h1, .inr (6, [.int 0, v2, .int 0]))] s.heap := hP
  have hl := lv_entry ([.ref h0, .int 3]) (n := 2) (Nat.le_of_ble_eq_true rfl)
  rw [lg_entry_eq]
  generalize (lg_sl ([.ref h0, .int 3]) ++ List.replicate (2 - (lg_sl ([.ref h0, .int 3])).length) Slot.unset).toArray = ls at hl ⊢
  have hl : lv_has ls 2 [(0, .ref h0), (1, .int 3)] := hl
  refine lv_aload_n hx hb dX16_house_0 rfl (lv_at hl 0 rfl) ?_
  refine lv_iload_n hx hb dX16_house_1 rfl (lv_at hl 1 rfl) ?_
  refine lv_iconst (v := 0) hx hb dX16_house_2 (by decide) ?_
  refine lv_bipush (v := 7) hx hb dX16_house_3 (by decide) ?_
  have hPc := hP.sub (ws' := []) [] rfl
  have hDc := hD.sub (ws' := []) [] (by decide) rfl
  have hKc := hK.sub (tys' := []) [] rfl
  have hFc := va_free (wc := []) hD hS hA [] rfl
  refine va_calli (va_runS (As := [.int 3, .int 0, .int 7]) (rest := [.ref h0]) ⟨hx, hb, hml, hown, hts⟩ (kX16_isIn_19 l dC dI g s.heap.size  ) (va_cwS 3 hts gX16_house_X16_isIn rfl rfl rfl (by decide +kernel) ⟨Nat.le_of_ble_eq_true rfl, Nat.le_of_ble_eq_true rfl⟩) ⟨fun a U gg mk q => by obtain ⟨q0, q1, qP, qK, qD, qF⟩ := q; exact ⟨q0, q1, qP, va_K.moved (u := U) (U := U.calling gg mk a) (Vm.Alike.refl U.vm) qK, qD, ns_same qF⟩, fun U hU hW => ⟨rfl, by rw [hU], by rw [hU]; exact hPc, va_K.moved hW.alike hKc, hDc.weaken (fun _ _ _ _ => trivial), ns_call hF hS hFc hU hW⟩⟩ rfl rfl hl.1 rfl (lv_room (Nat.le_of_ble_eq_true rfl)) dX16_house_5 ⟨Nat.le_of_ble_eq_true rfl, Nat.le_of_ble_eq_true rfl⟩) hS (fun q _ h => hFc q h) hFc (fun r9 u t H1 locs ht hvm hw hB hz1 hk1 hS => ?_)
  obtain rfl := hw
  obtain ⟨hP1, hK1, hD1⟩ := hB
  rw [ht] at hP1
  have hK1 := va_K.moved hvm.symm hK1
  obtain ⟨hP, hD⟩ := va_join (wr := [(h0, .inr (23, [v0, .ref h1, .int 20, .int 60, .ref (g 34), v1, .int 0, .int 0, .int 0])), (h1, .inr (6, [.int 0, v2, .int 0]))]) (w1 := []) hP hD [] [0, 1] rfl rfl (by decide) (by decide) hk1 hFc hP1 hD1
  have hK := (hK.sub (tys' := []) [] rfl).app hK1
  generalize H1 = H at hP hS ⊢
  have hP : va_P (dC, dI) vwCl [(h0, .inr (23, [v0, .ref h1, .int 20, .int 60, .ref (g 34), v1, .int 0, .int 0, .int 0])), (h1, .inr (6, [.int 0, v2, .int 0]))] H := hP
  have hD : va_D A [(h0, .inr (23, [v0, .ref h1, .int 20, .int 60, .ref (g 34), v1, .int 0, .int 0, .int 0])), (h1, .inr (6, [.int 0, v2, .int 0]))] := hD
  have hK : va_K (dC, dI) vwCl [] s := hK
  refine W.widen (k := 0) (n := 0) (Nat.le_of_ble_eq_true rfl) (Nat.le_of_ble_eq_true rfl) ?_
  refine lv_if_ne (tgt := 15) hx hb dX16_house_8 (by decide) (fun c1 => ?_) (fun c1 => absurd c1 (by decide))
  refine lv_iconst (v := 0) hx hb dX16_house_15 (by decide) ?_
  refine lv_iconst (v := 1) hx hb dX16_house_16 (by decide) ?_
  have hPc := hP.sub (ws' := [(h0, .inr (23, [v0, .ref h1, .int 20, .int 60, .ref (g 34), v1, .int 0, .int 0, .int 0]))]) [0] rfl
  have hDc := hD.sub (ws' := [(h0, .inr (23, [v0, .ref h1, .int 20, .int 60, .ref (g 34), v1, .int 0, .int 0, .int 0]))]) [0] (by decide) rfl
  have hKc := hK.sub (tys' := []) [] rfl
  have hFc := va_free (wc := [(h0, .inr (23, [v0, .ref h1, .int 20, .int 60, .ref (g 34), v1, .int 0, .int 0, .int 0]))]) hD hS hA [0] rfl
  refine va_calli (va_runV (As := [.int 0, .int 1]) (rest := []) ⟨hx, hb, hml, hown, hts⟩ (kX16_start_2 l dC dI g H.size h0 v0 (.ref h1) (.int 20) (.int 60) (.ref (g 34)) v1 (.int 0) (.int 0) (.int 0) ) (cwV 2 hts gX16_house_X16_start rfl rfl rfl (by decide +kernel) ⟨Nat.le_of_ble_eq_true rfl, Nat.le_of_ble_eq_true rfl⟩) ⟨fun a U gg mk q => by obtain ⟨q0, q1, qP, qK, qD, qF⟩ := q; exact ⟨q0, q1, qP, va_K.moved (u := U) (U := U.calling gg mk a) (Vm.Alike.refl U.vm) qK, qD, ns_same qF⟩, va_recv hK hP (ci := 23) (q0 := 0) rfl rfl, fun U hU hW => ⟨rfl, by rw [hU], by rw [hU]; exact hPc, va_K.moved hW.alike hKc, hDc.weaken (fun _ _ _ _ => trivial), ns_call hF hS hFc hU hW⟩⟩ rfl rfl hl.1 rfl (lv_room (Nat.le_of_ble_eq_true rfl)) dX16_house_17 ⟨Nat.le_of_ble_eq_true rfl, Nat.le_of_ble_eq_true rfl⟩) hS (fun q _ h => hFc q h) hFc (fun r9 u t H1 locs ht hvm hw hB hz1 hk1 hS => ?_)
  obtain rfl := hw
  obtain ⟨hP1, hK1, hD1⟩ := hB
  rw [ht] at hP1
  have hK1 := va_K.moved hvm.symm hK1
  obtain ⟨hP, hD⟩ := va_join (wr := [(h1, .inr (6, [.int 0, v2, .int 0]))]) (w1 := [(h0, .inr (23, [.int 0, .ref h1, .int 20, .int 60, .ref (g 34), v1, .int 0, .int 0, .int 0]))]) hP hD [0] [1] rfl rfl (by decide) (by decide) hk1 hFc hP1 hD1
  have hK := (hK.sub (tys' := []) [] rfl).app hK1
  generalize H1 = H at hP hS ⊢
  have hP : va_P (dC, dI) vwCl [(h1, .inr (6, [.int 0, v2, .int 0])), (h0, .inr (23, [.int 0, .ref h1, .int 20, .int 60, .ref (g 34), v1, .int 0, .int 0, .int 0]))] H := hP
  have hD : va_D A [(h1, .inr (6, [.int 0, v2, .int 0])), (h0, .inr (23, [.int 0, .ref h1, .int 20, .int 60, .ref (g 34), v1, .int 0, .int 0, .int 0]))] := hD
  have hK : va_K (dC, dI) vwCl [] s := hK
  refine W.widen (k := 0) (n := 0) (Nat.le_of_ble_eq_true rfl) (Nat.le_of_ble_eq_true rfl) ?_
  refine lv_if_eq (tgt := 27) hx hb dX16_house_20 (by decide) (fun c2 => ?_) (fun c2 => absurd (by decide) c2)
  refine lv_aload_n hx hb dX16_house_27 rfl (lv_at hl 0 rfl) ?_
  refine lv_iload_n hx hb dX16_house_28 rfl (lv_at hl 1 rfl) ?_
  have hPc := hP.sub (ws' := [(h0, .inr (23, [.int 0, .ref h1, .int 20, .int 60, .ref (g 34), v1, .int 0, .int 0, .int 0])), (h1, .inr (6, [.int 0, v2, .int 0]))]) [1, 0] rfl
  have hDc := hD.sub (ws' := [(h0, .inr (23, [.int 0, .ref h1, .int 20, .int 60, .ref (g 34), v1, .int 0, .int 0, .int 0])), (h1, .inr (6, [.int 0, v2, .int 0]))]) [1, 0] (by decide) rfl
  have hKc := hK.sub (tys' := []) [] rfl
  have hFc := va_free (wc := [(h0, .inr (23, [.int 0, .ref h1, .int 20, .int 60, .ref (g 34), v1, .int 0, .int 0, .int 0])), (h1, .inr (6, [.int 0, v2, .int 0]))]) hD hS hA [1, 0] rfl
  refine va_calli (va_runV (As := [.int 3]) (rest := []) ⟨hx, hb, hml, hown, hts⟩ (kX16_houseTold_4 l dC dI g H.size h0 h1 (.int 0) v1 v2 ) (cwV 1 hts gX16_house_X16_houseTold rfl rfl rfl (by decide +kernel) ⟨Nat.le_of_ble_eq_true rfl, Nat.le_of_ble_eq_true rfl⟩) ⟨fun a U gg mk q => by obtain ⟨q0, q1, qP, qK, qD, qF⟩ := q; exact ⟨q0, q1, qP, va_K.moved (u := U) (U := U.calling gg mk a) (Vm.Alike.refl U.vm) qK, qD, ns_same qF⟩, va_recv hK hP (ci := 23) (q0 := 1) rfl rfl, fun U hU hW => ⟨rfl, by rw [hU], by rw [hU]; exact hPc, va_K.moved hW.alike hKc, hDc.weaken (fun _ _ _ _ => trivial), ns_call hF hS hFc hU hW⟩⟩ rfl rfl hl.1 rfl (lv_room (Nat.le_of_ble_eq_true rfl)) dX16_house_29 ⟨Nat.le_of_ble_eq_true rfl, Nat.le_of_ble_eq_true rfl⟩) hS (fun q _ h => hFc q h) hFc (fun r9 u t H1 locs ht hvm hw hB hz1 hk1 hS => ?_)
  obtain rfl := hw
  obtain ⟨q3, q4, cy5, hP1, hK1, hD1⟩ := hB
  rw [ht] at hP1
  have hK1 := va_K.moved hvm.symm hK1
  obtain ⟨hP, hD⟩ := va_join (wr := []) (w1 := [(h0, .inr (23, [.int 0, .ref h1, .int 20, .int 60, .ref (g 34), v1, .int 0, .int 0, .int 0])), (q3, .inr (5, [.int 0, .int (-1), .int 0, .ref h1])), (q4, .inl (cy5, 8, .inl (upd (upd (upd (upd (upd (upd (upd (upd (fun _ => 0) 0 0) 1 20) 2 60) 3 0) 4 0) 5 0) 6 0) 7 0))), (h1, .inr (6, [.int 0, v2, .int 0]))]) hP hD [1, 0] [] rfl rfl (by decide) (by decide) hk1 hFc hP1 hD1
  have hK := (hK.sub (tys' := []) [] rfl).app hK1
  generalize H1 = H at hP hS ⊢
  have hP : va_P (dC, dI) vwCl [(h0, .inr (23, [.int 0, .ref h1, .int 20, .int 60, .ref (g 34), v1, .int 0, .int 0, .int 0])), (q3, .inr (5, [.int 0, .int (-1), .int 0, .ref h1])), (q4, .inl (cy5, 8, .inl (upd (upd (upd (upd (upd (upd (upd (upd (fun _ => 0) 0 0) 1 20) 2 60) 3 0) 4 0) 5 0) 6 0) 7 0))), (h1, .inr (6, [.int 0, v2, .int 0]))] H := hP
  have hD : va_D A [(h0, .inr (23, [.int 0, .ref h1, .int 20, .int 60, .ref (g 34), v1, .int 0, .int 0, .int 0])), (q3, .inr (5, [.int 0, .int (-1), .int 0, .ref h1])), (q4, .inl (cy5, 8, .inl (upd (upd (upd (upd (upd (upd (upd (upd (fun _ => 0) 0 0) 1 20) 2 60) 3 0) 4 0) 5 0) 6 0) 7 0))), (h1, .inr (6, [.int 0, v2, .int 0]))] := hD
  have hK : va_K (dC, dI) vwCl [(cy5, .int)] s := hK
  refine W.widen (k := 2) (n := 12) (Nat.le_of_ble_eq_true rfl) (Nat.le_of_ble_eq_true rfl) ?_
  have hP9 := hP.sub (ws' := [(h0, .inr (23, [.int 0, .ref h1, .int 20, .int 60, .ref (g 34), v1, .int 0, .int 0, .int 0])), (q3, .inr (5, [.int 0, .int (-1), .int 0, .ref h1])), (q4, .inl (cy5, 8, .inl (upd (upd (upd (upd (upd (upd (upd (upd (fun _ => 0) 0 0) 1 20) 2 60) 3 0) 4 0) 5 0) 6 0) 7 0))), (h1, .inr (6, [.int 0, v2, .int 0]))]) [0, 1, 2, 3] rfl
  have hD9 := hD.sub (ws' := [(h0, .inr (23, [.int 0, .ref h1, .int 20, .int 60, .ref (g 34), v1, .int 0, .int 0, .int 0])), (q3, .inr (5, [.int 0, .int (-1), .int 0, .ref h1])), (q4, .inl (cy5, 8, .inl (upd (upd (upd (upd (upd (upd (upd (upd (fun _ => 0) 0 0) 1 20) 2 60) 3 0) 4 0) 5 0) 6 0) 7 0))), (h1, .inr (6, [.int 0, v2, .int 0]))]) [0, 1, 2, 3] (by decide) rfl
  have hK9 := hK.sub (tys' := [(cy5, .int)]) [0] rfl
  refine W.widen (k := 2) (n := 12) (Nat.le_of_ble_eq_true rfl) (Nat.le_of_ble_eq_true rfl) ?_
  exact W.iret (v := 0) hx hb hr (fun t ht hW => ⟨⟨_, (), rfl, rfl, q3, q4, cy5, by rw [ht]; exact hP9, va_K.moved hW.alike hK9, hD9⟩, hS.F ht⟩) hS.2.2 dX16_house_32
set_option maxHeartbeats 4000000 in
set_option maxRecDepth 100000 in
theorem kX9_stateOf_5 (l : Launch) (dC : Nat → ClassId) (dI : Nat → Nat → Nat) (g : Nat → Nat) (sz : Nat) (h0 : Nat) (v0 : Value) (v1 : Value) (v2 : Value) (v3 : Value) (v4 : Value) (v5 : Value) (v6 : Value) (v7 : Value) (v8 : Value) (v9 : Value) (v10 : Value) (v11 : Value) (v12 : Value) (v13 : Value) (v14 : Value) : Met l yX9_stateOf wsX9_stateOf ({ frames := 0, cells := 0, slots := 0, locals := 0 }) (va_Pc [.ref h0, .int 4] (fun U => U.heap.size = sz ∧ va_P (dC, dI) vwCl [(h0, .inr (16, [v0, v1, v2, v3, v4, v5, v6, v7, v8, v9, v10, v11, v12, .int 0, v13, v14]))] U.heap ∧ va_K (dC, dI) vwCl [] U ∧ va_D (fun _ => True) [(h0, .inr (16, [v0, v1, v2, v3, v4, v5, v6, v7, v8, v9, v10, v11, v12, .int 0, v13, v14]))] ∧ ns_F g (va_A [(h0, .inr (16, [v0, v1, v2, v3, v4, v5, v6, v7, v8, v9, v10, v11, v12, .int 0, v13, v14]))] sz) U U.heap)) (va_Qi (fun (r : Int32) (_ : Unit) => r = 0) (fun _ t => va_P (dC, dI) vwCl [(h0, .inr (16, [v0, v1, v2, v3, v4, v5, v6, v7, v8, v9, v10, v11, v12, .int 0, v13, v14]))] t.heap ∧ va_K (dC, dI) vwCl [] t ∧ va_D (va_A [(h0, .inr (16, [v0, v1, v2, v3, v4, v5, v6, v7, v8, v9, v10, v11, v12, .int 0, v13, v14]))] sz) [(h0, .inr (16, [v0, v1, v2, v3, v4, v5, v6, v7, v8, v9, v10, v11, v12, .int 0, v13, v14]))]) (va_A [(h0, .inr (16, [v0, v1, v2, v3, v4, v5, v6, v7, v8, v9, v10, v11, v12, .int 0, v13, v14]))] sz)) 0 0 (va_A [(h0, .inr (16, [v0, v1, v2, v3, v4, v5, v6, v7, v8, v9, v10, v11, v12, .int 0, v13, v14]))] sz) := by
  refine Met.ofW (cc := cX9_stateOf) (maxL := 2) (ret := (some .int)) (by decide) rfl ?_
  intro p e s m args below meth c s₁ B hml hv
  obtain ⟨rfl, hsz, hP, hK, hD0, hF⟩ := hv
  have hx := B.exec
  have hb := B.bytes
  have hr := B.returns
  have hts := atoms_spec (ws := wsX9_stateOf) B.pre
  have hown : s.vm.findClass RX9 = some m.cls := findClass_of_methodNamed B.named
  have hlocks := B.notSynchronized
  subst hsz
  have hD := hD0.self (sz := s.heap.size)
  generalize hAe : va_A [(h0, .inr (16, [v0, v1, v2, v3, v4, v5, v6, v7, v8, v9, v10, v11, v12, .int 0, v13, v14]))] s.heap.size = A at hD hF ⊢
  have hA : ∀ q : Nat, s.heap.size ≤ q → A q := fun q h => by rw [← hAe]; exact Or.inr h
  have hS : va_S A s.heap s.heap [] := va_S.rf
  have hP : va_P (dC, dI) vwCl [(h0, .inr (16, [v0, v1, v2, v3, v4, v5, v6, v7, v8, v9, v10, v11, v12, .int 0, v13, v14]))] s.heap := hP
  have hl := lv_entry ([.ref h0, .int 4]) (n := 2) (Nat.le_of_ble_eq_true rfl)
  rw [lg_entry_eq]
  generalize (lg_sl ([.ref h0, .int 4]) ++ List.replicate (2 - (lg_sl ([.ref h0, .int 4])).length) Slot.unset).toArray = ls at hl ⊢
  have hl : lv_has ls 2 [(0, .ref h0), (1, .int 4)] := hl
  refine lv_iload_n hx hb dX9_stateOf_0 rfl (lv_at hl 1 rfl) ?_
  refine lv_tableIn (off := 69) (tgt := 70) hx hb dX9_stateOf_1 (by decide) (by decide) (by decide) (by decide) ?_
  refine lv_aload_n hx hb dX9_stateOf_70 rfl (lv_at hl 0 rfl) ?_
  refine va_get (D := (dC, dI)) (ci := 16) (v := .int 0) (C := RX9) (T := TX9) (N := 16) hx hb hts (by decide +kernel) hown hK hP 0 rfl rfl 13 (by decide) (hts (.fieldLink RX9 91 "Nestprint" "told" "I") (by decide +kernel)) (fun _ h9 => h9) rfl dX9_stateOf_71 ?_
  have hP9 := hP.sub (ws' := [(h0, .inr (16, [v0, v1, v2, v3, v4, v5, v6, v7, v8, v9, v10, v11, v12, .int 0, v13, v14]))]) [0] rfl
  have hD9 := hD.sub (ws' := [(h0, .inr (16, [v0, v1, v2, v3, v4, v5, v6, v7, v8, v9, v10, v11, v12, .int 0, v13, v14]))]) [0] (by decide) rfl
  have hK9 := hK.sub (tys' := []) [] rfl
  refine W.widen (k := 0) (n := 0) (Nat.le_of_ble_eq_true rfl) (Nat.le_of_ble_eq_true rfl) ?_
  exact W.iret (v := 0) hx hb hr (fun t ht hW => ⟨⟨_, (), rfl, rfl, by rw [ht]; exact hP9, va_K.moved hW.alike hK9, hD9⟩, hS.F ht⟩) hS.2.2 dX9_stateOf_74
set_option maxHeartbeats 4000000 in
set_option maxRecDepth 100000 in
theorem kX9_house_6 (l : Launch) (dC : Nat → ClassId) (dI : Nat → Nat → Nat) (g : Nat → Nat) (sz : Nat) (h0 : Nat) (v0 : Value) (v1 : Value) (v2 : Value) (v3 : Value) (v4 : Value) (v5 : Value) (v6 : Value) (v7 : Value) (v8 : Value) (v9 : Value) (v10 : Value) (v11 : Value) (v12 : Value) (v13 : Value) (v14 : Value) : Met l yX9_house wsX9_house ({ frames := 1, cells := 0, slots := 0, locals := 21 }) (va_Pc [.ref h0, .int 4] (fun U => U.heap.size = sz ∧ va_P (dC, dI) vwCl [(h0, .inr (16, [v0, v1, v2, v3, v4, v5, v6, v7, v8, v9, v10, v11, v12, .int 0, v13, v14]))] U.heap ∧ va_K (dC, dI) vwCl [] U ∧ va_D (fun _ => True) [(h0, .inr (16, [v0, v1, v2, v3, v4, v5, v6, v7, v8, v9, v10, v11, v12, .int 0, v13, v14]))] ∧ ns_F g (va_A [(h0, .inr (16, [v0, v1, v2, v3, v4, v5, v6, v7, v8, v9, v10, v11, v12, .int 0, v13, v14]))] sz) U U.heap)) (va_Qi (fun (r : Int32) (_ : Unit) => r = 0) (fun _ t => va_P (dC, dI) vwCl [(h0, .inr (16, [v0, v1, v2, v3, v4, v5, v6, v7, v8, v9, v10, v11, v12, .int 0, v13, v14]))] t.heap ∧ va_K (dC, dI) vwCl [] t ∧ va_D (va_A [(h0, .inr (16, [v0, v1, v2, v3, v4, v5, v6, v7, v8, v9, v10, v11, v12, .int 0, v13, v14]))] sz) [(h0, .inr (16, [v0, v1, v2, v3, v4, v5, v6, v7, v8, v9, v10, v11, v12, .int 0, v13, v14]))]) (va_A [(h0, .inr (16, [v0, v1, v2, v3, v4, v5, v6, v7, v8, v9, v10, v11, v12, .int 0, v13, v14]))] sz)) 0 0 (va_A [(h0, .inr (16, [v0, v1, v2, v3, v4, v5, v6, v7, v8, v9, v10, v11, v12, .int 0, v13, v14]))] sz) := by
  refine Met.ofW (cc := cX9_house) (maxL := 2) (ret := (some .int)) (by decide) rfl ?_
  intro p e s m args below meth c s₁ B hml hv
  obtain ⟨rfl, hsz, hP, hK, hD0, hF⟩ := hv
  have hx := B.exec
  have hb := B.bytes
  have hr := B.returns
  have hts := atoms_spec (ws := wsX9_house) B.pre
  have hown : s.vm.findClass RX9 = some m.cls := findClass_of_methodNamed B.named
  have hlocks := B.notSynchronized
  subst hsz
  have hD := hD0.self (sz := s.heap.size)
  generalize hAe : va_A [(h0, .inr (16, [v0, v1, v2, v3, v4, v5, v6, v7, v8, v9, v10, v11, v12, .int 0, v13, v14]))] s.heap.size = A at hD hF ⊢
  have hA : ∀ q : Nat, s.heap.size ≤ q → A q := fun q h => by rw [← hAe]; exact Or.inr h
  have hS : va_S A s.heap s.heap [] := va_S.rf
  have hP : va_P (dC, dI) vwCl [(h0, .inr (16, [v0, v1, v2, v3, v4, v5, v6, v7, v8, v9, v10, v11, v12, .int 0, v13, v14]))] s.heap := hP
  have hl := lv_entry ([.ref h0, .int 4]) (n := 2) (Nat.le_of_ble_eq_true rfl)
  rw [lg_entry_eq]
  generalize (lg_sl ([.ref h0, .int 4]) ++ List.replicate (2 - (lg_sl ([.ref h0, .int 4])).length) Slot.unset).toArray = ls at hl ⊢
  have hl : lv_has ls 2 [(0, .ref h0), (1, .int 4)] := hl
  refine lv_iload_n hx hb dX9_house_0 rfl (lv_at hl 1 rfl) ?_
  refine lv_if_lt (tgt := 10) hx hb dX9_house_1 (by decide) (fun c1 => absurd c1 (by decide)) (fun c1 => ?_)
  refine lv_iload_n hx hb dX9_house_4 rfl (lv_at hl 1 rfl) ?_
  refine lv_bipush (v := 7) hx hb dX9_house_5 (by decide) ?_
  refine lv_icmp_le (tgt := 20) hx hb dX9_house_7 (by decide) (fun c2 => ?_) (fun c2 => absurd (by decide) c2)
  refine lv_aload_n hx hb dX9_house_20 rfl (lv_at hl 0 rfl) ?_
  refine lv_iload_n hx hb dX9_house_21 rfl (lv_at hl 1 rfl) ?_
  have hPc := hP.sub (ws' := [(h0, .inr (16, [v0, v1, v2, v3, v4, v5, v6, v7, v8, v9, v10, v11, v12, .int 0, v13, v14]))]) [0] rfl
  have hDc := hD.sub (ws' := [(h0, .inr (16, [v0, v1, v2, v3, v4, v5, v6, v7, v8, v9, v10, v11, v12, .int 0, v13, v14]))]) [0] (by decide) rfl
  have hKc := hK.sub (tys' := []) [] rfl
  have hFc := va_free (wc := [(h0, .inr (16, [v0, v1, v2, v3, v4, v5, v6, v7, v8, v9, v10, v11, v12, .int 0, v13, v14]))]) hD hS hA [0] rfl
  refine va_calli (va_runV (As := [.int 4]) (rest := []) ⟨hx, hb, hml, hown, hts⟩ (kX9_stateOf_5 l dC dI g s.heap.size h0 v0 v1 v2 v3 v4 v5 v6 v7 v8 v9 v10 v11 v12 v13 v14 ) (cwV 1 hts gX9_house_X9_stateOf rfl rfl rfl (by decide +kernel) ⟨Nat.le_of_ble_eq_true rfl, Nat.le_of_ble_eq_true rfl⟩) ⟨fun a U gg mk q => by obtain ⟨q0, q1, qP, qK, qD, qF⟩ := q; exact ⟨q0, q1, qP, va_K.moved (u := U) (U := U.calling gg mk a) (Vm.Alike.refl U.vm) qK, qD, ns_same qF⟩, va_recv hK hP (ci := 16) (q0 := 0) rfl rfl, fun U hU hW => ⟨rfl, by rw [hU], by rw [hU]; exact hPc, va_K.moved hW.alike hKc, hDc.weaken (fun _ _ _ _ => trivial), ns_call hF hS hFc hU hW⟩⟩ rfl rfl hl.1 rfl (lv_room (Nat.le_of_ble_eq_true rfl)) dX9_house_22 ⟨Nat.le_of_ble_eq_true rfl, Nat.le_of_ble_eq_true rfl⟩) hS (fun q _ h => hFc q h) hFc (fun r9 u t H1 locs ht hvm hw hB hz1 hk1 hS => ?_)
  obtain rfl := hw
  obtain ⟨hP1, hK1, hD1⟩ := hB
  rw [ht] at hP1
  have hK1 := va_K.moved hvm.symm hK1
  obtain ⟨hP, hD⟩ := va_join (wr := []) (w1 := [(h0, .inr (16, [v0, v1, v2, v3, v4, v5, v6, v7, v8, v9, v10, v11, v12, .int 0, v13, v14]))]) hP hD [0] [] rfl rfl (by decide) (by decide) hk1 hFc hP1 hD1
  have hK := (hK.sub (tys' := []) [] rfl).app hK1
  generalize H1 = H at hP hS ⊢
  have hP : va_P (dC, dI) vwCl [(h0, .inr (16, [v0, v1, v2, v3, v4, v5, v6, v7, v8, v9, v10, v11, v12, .int 0, v13, v14]))] H := hP
  have hD : va_D A [(h0, .inr (16, [v0, v1, v2, v3, v4, v5, v6, v7, v8, v9, v10, v11, v12, .int 0, v13, v14]))] := hD
  have hK : va_K (dC, dI) vwCl [] s := hK
  refine W.widen (k := 0) (n := 0) (Nat.le_of_ble_eq_true rfl) (Nat.le_of_ble_eq_true rfl) ?_
  have hP9 := hP.sub (ws' := [(h0, .inr (16, [v0, v1, v2, v3, v4, v5, v6, v7, v8, v9, v10, v11, v12, .int 0, v13, v14]))]) [0] rfl
  have hD9 := hD.sub (ws' := [(h0, .inr (16, [v0, v1, v2, v3, v4, v5, v6, v7, v8, v9, v10, v11, v12, .int 0, v13, v14]))]) [0] (by decide) rfl
  have hK9 := hK.sub (tys' := []) [] rfl
  refine W.widen (k := 0) (n := 0) (Nat.le_of_ble_eq_true rfl) (Nat.le_of_ble_eq_true rfl) ?_
  exact W.iret (v := 0) hx hb hr (fun t ht hW => ⟨⟨_, (), rfl, rfl, by rw [ht]; exact hP9, va_K.moved hW.alike hK9, hD9⟩, hS.F ht⟩) hS.2.2 dX9_house_25
set_option maxHeartbeats 4000000 in
set_option maxRecDepth 100000 in
theorem kL_house_6 (l : Launch) (dC : Nat → ClassId) (dI : Nat → Nat → Nat) (g : Nat → Nat) (sz : Nat) (h0 : Nat) (h1 : Nat) (v0 : Value) (v1 : Value) (v2 : Value) (v3 : Value) (v4 : Value) (v5 : Value) (v6 : Value) (v7 : Value) (v8 : Value) (v9 : Value) (v10 : Value) (v11 : Value) (v12 : Value) (v13 : Value) (v14 : Value) (v15 : Value) (v16 : Value) : Met l yL_house wsL_house ({ frames := 2, cells := 0, slots := 0, locals := 42 }) (va_Pc [.ref h0, .int 4, .ref h1] (fun U => U.heap.size = sz ∧ va_P (dC, dI) vwCl [(h0, .inr (16, [v0, v1, v2, v3, v4, v5, v6, v7, v8, v9, v10, v11, v12, .int 0, v13, v14])), (h1, .inr (17, [v15, v16]))] U.heap ∧ va_K (dC, dI) vwCl [] U ∧ va_D (fun _ => True) [(h0, .inr (16, [v0, v1, v2, v3, v4, v5, v6, v7, v8, v9, v10, v11, v12, .int 0, v13, v14])), (h1, .inr (17, [v15, v16]))] ∧ ns_F g (va_A [(h0, .inr (16, [v0, v1, v2, v3, v4, v5, v6, v7, v8, v9, v10, v11, v12, .int 0, v13, v14])), (h1, .inr (17, [v15, v16]))] sz) U U.heap)) (va_Qi (fun (r : Int32) (_ : Unit) => r = 0) (fun _ t => va_P (dC, dI) vwCl [(h1, .inr (17, [.long 0, v16])), (h0, .inr (16, [v0, v1, v2, v3, v4, v5, v6, v7, v8, v9, v10, v11, v12, .int 0, v13, v14]))] t.heap ∧ va_K (dC, dI) vwCl [] t ∧ va_D (va_A [(h0, .inr (16, [v0, v1, v2, v3, v4, v5, v6, v7, v8, v9, v10, v11, v12, .int 0, v13, v14])), (h1, .inr (17, [v15, v16]))] sz) [(h1, .inr (17, [.long 0, v16])), (h0, .inr (16, [v0, v1, v2, v3, v4, v5, v6, v7, v8, v9, v10, v11, v12, .int 0, v13, v14]))]) (va_A [(h0, .inr (16, [v0, v1, v2, v3, v4, v5, v6, v7, v8, v9, v10, v11, v12, .int 0, v13, v14])), (h1, .inr (17, [v15, v16]))] sz)) 0 0 (va_A [(h0, .inr (16, [v0, v1, v2, v3, v4, v5, v6, v7, v8, v9, v10, v11, v12, .int 0, v13, v14])), (h1, .inr (17, [v15, v16]))] sz) := by
  refine va_MetW (cc := cL_house) (maxL := 4) (ret := (some .int)) (hh := [(0, 10, 13, 19)]) (by decide) rfl ?_
  intro p e s m args below meth c s₁ B hml hv
  obtain ⟨rfl, hsz, hP, hK, hD0, hF⟩ := hv
  have hx := B.exec
  have hb := B.bytes
  have hr := B.returns
  have hts := atoms_spec (ws := wsL_house) B.pre
  have hown : s.vm.findClass RL = some m.cls := findClass_of_methodNamed B.named
  have hlocks := B.notSynchronized
  have htab : c.exceptionTable.toList = [⟨0, 10, 13, 19⟩] := vx_table B (hts _ List.mem_cons_self)
  subst hsz
  have hD := hD0.self (sz := s.heap.size)
  generalize hAe : va_A [(h0, .inr (16, [v0, v1, v2, v3, v4, v5, v6, v7, v8, v9, v10, v11, v12, .int 0, v13, v14])), (h1, .inr (17, [v15, v16]))] s.heap.size = A at hD hF ⊢
  have hA : ∀ q : Nat, s.heap.size ≤ q → A q := fun q h => by rw [← hAe]; exact Or.inr h
  have hS : va_S A s.heap s.heap [] := va_S.rf
  have hP : va_P (dC, dI) vwCl [(h0, .inr (16, [v0, v1, v2, v3, v4, v5, v6, v7, v8, v9, v10, v11, v12, .int 0, v13, v14])), (h1, .inr (17, [v15, v16]))] s.heap := hP
  have hl := lv_entry ([.ref h0, .int 4, .ref h1]) (n := 4) (Nat.le_of_ble_eq_true rfl)
  rw [lg_entry_eq]
  generalize (lg_sl ([.ref h0, .int 4, .ref h1]) ++ List.replicate (4 - (lg_sl ([.ref h0, .int 4, .ref h1])).length) Slot.unset).toArray = ls at hl ⊢
  have hl : lv_has ls 4 [(0, .ref h0), (1, .int 4), (2, .ref h1)] := hl
  refine lv_aload_n hx hb dL_house_0 rfl (lv_at hl 2 rfl) ?_
  refine lv_aload_n hx hb dL_house_1 rfl (lv_at hl 0 rfl) ?_
  refine lv_iload_n hx hb dL_house_2 rfl (lv_at hl 1 rfl) ?_
  have hPc := hP.sub (ws' := [(h0, .inr (16, [v0, v1, v2, v3, v4, v5, v6, v7, v8, v9, v10, v11, v12, .int 0, v13, v14]))]) [0] rfl
  have hDc := hD.sub (ws' := [(h0, .inr (16, [v0, v1, v2, v3, v4, v5, v6, v7, v8, v9, v10, v11, v12, .int 0, v13, v14]))]) [0] (by decide) rfl
  have hKc := hK.sub (tys' := []) [] rfl
  have hFc := va_free (wc := [(h0, .inr (16, [v0, v1, v2, v3, v4, v5, v6, v7, v8, v9, v10, v11, v12, .int 0, v13, v14]))]) hD hS hA [0] rfl
  refine va_calli (va_runV (As := [.int 4]) (rest := [.ref h1]) ⟨hx, hb, hml, hown, hts⟩ (kX9_house_6 l dC dI g s.heap.size h0 v0 v1 v2 v3 v4 v5 v6 v7 v8 v9 v10 v11 v12 v13 v14 ) (cwV 1 hts gL_house_X9_house rfl rfl rfl (by decide +kernel) ⟨Nat.le_of_ble_eq_true rfl, Nat.le_of_ble_eq_true rfl⟩) ⟨fun a U gg mk q => by obtain ⟨q0, q1, qP, qK, qD, qF⟩ := q; exact ⟨q0, q1, qP, va_K.moved (u := U) (U := U.calling gg mk a) (Vm.Alike.refl U.vm) qK, qD, ns_same qF⟩, va_recv hK hP (ci := 16) (q0 := 0) rfl rfl, fun U hU hW => ⟨rfl, by rw [hU], by rw [hU]; exact hPc, va_K.moved hW.alike hKc, hDc.weaken (fun _ _ _ _ => trivial), ns_call hF hS hFc hU hW⟩⟩ rfl rfl hl.1 rfl (lv_room (Nat.le_of_ble_eq_true rfl)) dL_house_3 ⟨Nat.le_of_ble_eq_true rfl, Nat.le_of_ble_eq_true rfl⟩) hS (fun q _ h => hFc q h) hFc (fun r9 u t H1 locs ht hvm hw hB hz1 hk1 hS => ?_)
  obtain rfl := hw
  obtain ⟨hP1, hK1, hD1⟩ := hB
  rw [ht] at hP1
  have hK1 := va_K.moved hvm.symm hK1
  obtain ⟨hP, hD⟩ := va_join (wr := [(h1, .inr (17, [v15, v16]))]) (w1 := [(h0, .inr (16, [v0, v1, v2, v3, v4, v5, v6, v7, v8, v9, v10, v11, v12, .int 0, v13, v14]))]) hP hD [0] [1] rfl rfl (by decide) (by decide) hk1 hFc hP1 hD1
  have hK := (hK.sub (tys' := []) [] rfl).app hK1
  generalize H1 = H at hP hS ⊢
  have hP : va_P (dC, dI) vwCl [(h1, .inr (17, [v15, v16])), (h0, .inr (16, [v0, v1, v2, v3, v4, v5, v6, v7, v8, v9, v10, v11, v12, .int 0, v13, v14]))] H := hP
  have hD : va_D A [(h1, .inr (17, [v15, v16])), (h0, .inr (16, [v0, v1, v2, v3, v4, v5, v6, v7, v8, v9, v10, v11, v12, .int 0, v13, v14]))] := hD
  have hK : va_K (dC, dI) vwCl [] s := hK
  refine W.widen (k := 0) (n := 0) (Nat.le_of_ble_eq_true rfl) (Nat.le_of_ble_eq_true rfl) ?_
  refine lv_i2l (v := 0) hx hb dL_house_6 (by decide) ?_
  refine va_putN (D := (dC, dI)) (ci := 17) (v := .long 0) (ty := .long) (C := RX10) (T := TX10) (N := 2) hx hb hts (by decide +kernel) tyX10 tyX10_ok nmX10 hown hK hP hD hS 0 rfl rfl 0 (by decide) (va_Nw.use rfl (ns_f7 hF)) (fun _ h9 => h9) rfl (by decide +kernel) rfl rfl (Nat.le_of_ble_eq_true rfl) dL_house_7 (fun H locs hP hD hS => ?_)
  have hP : va_P (dC, dI) vwCl [(h1, .inr (17, [.long 0, v16])), (h0, .inr (16, [v0, v1, v2, v3, v4, v5, v6, v7, v8, v9, v10, v11, v12, .int 0, v13, v14]))] H := hP
  have hD : va_D A [(h1, .inr (17, [.long 0, v16])), (h0, .inr (16, [v0, v1, v2, v3, v4, v5, v6, v7, v8, v9, v10, v11, v12, .int 0, v13, v14]))] := hD
  refine lv_goto (tgt := 16) hx hb dL_house_10 (by decide) ?_
  refine lv_iconst (v := 0) hx hb dL_house_16 (by decide) ?_
  have hP9 := hP.sub (ws' := [(h1, .inr (17, [.long 0, v16])), (h0, .inr (16, [v0, v1, v2, v3, v4, v5, v6, v7, v8, v9, v10, v11, v12, .int 0, v13, v14]))]) [0, 1] rfl
  have hD9 := hD.sub (ws' := [(h1, .inr (17, [.long 0, v16])), (h0, .inr (16, [v0, v1, v2, v3, v4, v5, v6, v7, v8, v9, v10, v11, v12, .int 0, v13, v14]))]) [0, 1] (by decide) rfl
  have hK9 := hK.sub (tys' := []) [] rfl
  refine W.widen (k := 0) (n := 0) (Nat.le_of_ble_eq_true rfl) (Nat.le_of_ble_eq_true rfl) ?_
  exact W.iret (v := 0) hx hb hr (fun t ht hW => ⟨⟨_, (), rfl, rfl, by rw [ht]; exact hP9, va_K.moved hW.alike hK9, hD9⟩, hS.F ht⟩) hS.2.2 dL_house_17
set_option maxHeartbeats 4000000 in
set_option maxRecDepth 100000 in
theorem kX16_isIn_20 (l : Launch) (dC : Nat → ClassId) (dI : Nat → Nat → Nat) (g : Nat → Nat) (sz : Nat)  : Met l yX16_isIn wsX16_isIn ({ frames := 0, cells := 0, slots := 0, locals := 0 }) (va_Pc [.int 4, .int 0, .int 7] (fun U => U.heap.size = sz ∧ va_P (dC, dI) vwCl [] U.heap ∧ va_K (dC, dI) vwCl [] U ∧ va_D (fun _ => True) [] ∧ ns_F g (va_A [] sz) U U.heap)) (va_Qi (fun (r : Int32) (_ : Unit) => r = 1) (fun _ t => va_P (dC, dI) vwCl [] t.heap ∧ va_K (dC, dI) vwCl [] t ∧ va_D (va_A [] sz) []) (va_A [] sz)) 0 0 (va_A [] sz) := by
  refine Met.ofW (cc := cX16_isIn) (maxL := 3) (ret := (some .boolean)) (by decide) rfl ?_
  intro p e s m args below meth c s₁ B hml hv
  obtain ⟨rfl, hsz, hP, hK, hD0, hF⟩ := hv
  have hx := B.exec
  have hb := B.bytes
  have hr := B.returns
  have hts := atoms_spec (ws := wsX16_isIn) B.pre
  have hown : s.vm.findClass RX16 = some m.cls := findClass_of_methodNamed B.named
  have hlocks := B.notSynchronized
  subst hsz
  have hD := hD0.self (sz := s.heap.size)
  generalize hAe : va_A [] s.heap.size = A at hD hF ⊢
  have hA : ∀ q : Nat, s.heap.size ≤ q → A q := fun q h => by rw [← hAe]; exact Or.inr h
  have hS : va_S A s.heap s.heap [] := va_S.rf
  have hP : va_P (dC, dI) vwCl [] s.heap := hP
  have hl := lv_entry ([.int 4, .int 0, .int 7]) (n := 3) (Nat.le_of_ble_eq_true rfl)
  rw [lg_entry_eq]
  generalize (lg_sl ([.int 4, .int 0, .int 7]) ++ List.replicate (3 - (lg_sl ([.int 4, .int 0, .int 7])).length) Slot.unset).toArray = ls at hl ⊢
  have hl : lv_has ls 3 [(0, .int 4), (1, .int 0), (2, .int 7)] := hl
  refine lv_iload_n hx hb dX16_isIn_0 rfl (lv_at hl 0 rfl) ?_
  refine lv_iload_n hx hb dX16_isIn_1 rfl (lv_at hl 1 rfl) ?_
  refine lv_icmp_lt (tgt := 14) hx hb dX16_isIn_2 (by decide) (fun c1 => absurd c1 (by decide)) (fun c1 => ?_)
  refine lv_iload_n hx hb dX16_isIn_5 rfl (lv_at hl 0 rfl) ?_
  refine lv_iload_n hx hb dX16_isIn_6 rfl (lv_at hl 2 rfl) ?_
  refine lv_icmp_gt (tgt := 14) hx hb dX16_isIn_7 (by decide) (fun c2 => absurd c2 (by decide)) (fun c2 => ?_)
  refine lv_iconst (v := 1) hx hb dX16_isIn_10 (by decide) ?_
  refine lv_goto (tgt := 15) hx hb dX16_isIn_11 (by decide) ?_
  have hP9 := hP.sub (ws' := []) [] rfl
  have hD9 := hD.sub (ws' := []) [] (by decide) rfl
  have hK9 := hK.sub (tys' := []) [] rfl
  refine W.widen (k := 0) (n := 0) (Nat.le_of_ble_eq_true rfl) (Nat.le_of_ble_eq_true rfl) ?_
  exact W.zret (v := 1) hx hb hr (by decide) (fun t ht hW => ⟨⟨_, (), rfl, rfl, by rw [ht]; exact hP9, va_K.moved hW.alike hK9, hD9⟩, hS.F ht⟩) hS.2.2 dX16_isIn_15
set_option maxHeartbeats 4000000 in
set_option maxRecDepth 100000 in
theorem kX16_houseTold_5 (l : Launch) (dC : Nat → ClassId) (dI : Nat → Nat → Nat) (g : Nat → Nat) (sz : Nat) (h0 : Nat) (h1 : Nat) (v0 : Value) (v1 : Value) (v2 : Value) : Met l yX16_houseTold wsX16_houseTold ({ frames := 3, cells := 2, slots := 12, locals := 53 }) (va_Pc [.ref h0, .int 4] (fun U => U.heap.size = sz ∧ va_P (dC, dI) vwCl [(h0, .inr (23, [v0, .ref h1, .int 20, .int 60, .ref (g 34), v1, .int 0, .int 0, .int 0])), (h1, .inr (6, [.int 0, v2, .int 0]))] U.heap ∧ va_K (dC, dI) vwCl [] U ∧ va_D (fun _ => True) [(h0, .inr (23, [v0, .ref h1, .int 20, .int 60, .ref (g 34), v1, .int 0, .int 0, .int 0])), (h1, .inr (6, [.int 0, v2, .int 0]))] ∧ ns_F g (va_A [(h0, .inr (23, [v0, .ref h1, .int 20, .int 60, .ref (g 34), v1, .int 0, .int 0, .int 0])), (h1, .inr (6, [.int 0, v2, .int 0]))] sz) U U.heap)) (va_Qi (fun (r : Int32) (_ : Unit) => r = 0) (fun _ t => ∃ k0 : Nat, ∃ k1 : Nat, ∃ kc2 : ClassId, va_P (dC, dI) vwCl [(h0, .inr (23, [v0, .ref h1, .int 20, .int 60, .ref (g 34), v1, .int 0, .int 0, .int 0])), (k0, .inr (5, [.int 0, .int (-1), .int 0, .ref h1])), (k1, .inl (kc2, 8, .inl (upd (upd (upd (upd (upd (upd (upd (upd (fun _ => 0) 0 0) 1 20) 2 60) 3 0) 4 0) 5 0) 6 0) 7 0))), (h1, .inr (6, [.int 0, v2, .int 0]))] t.heap ∧ va_K (dC, dI) vwCl [(kc2, .int)] t ∧ va_D (va_A [(h0, .inr (23, [v0, .ref h1, .int 20, .int 60, .ref (g 34), v1, .int 0, .int 0, .int 0])), (h1, .inr (6, [.int 0, v2, .int 0]))] sz) [(h0, .inr (23, [v0, .ref h1, .int 20, .int 60, .ref (g 34), v1, .int 0, .int 0, .int 0])), (k0, .inr (5, [.int 0, .int (-1), .int 0, .ref h1])), (k1, .inl (kc2, 8, .inl (upd (upd (upd (upd (upd (upd (upd (upd (fun _ => 0) 0 0) 1 20) 2 60) 3 0) 4 0) 5 0) 6 0) 7 0))), (h1, .inr (6, [.int 0, v2, .int 0]))]) (va_A [(h0, .inr (23, [v0, .ref h1, .int 20, .int 60, .ref (g 34), v1, .int 0, .int 0, .int 0])), (h1, .inr (6, [.int 0, v2, .int 0]))] sz)) 2 12 (va_A [(h0, .inr (23, [v0, .ref h1, .int 20, .int 60, .ref (g 34), v1, .int 0, .int 0, .int 0])), (h1, .inr (6, [.int 0, v2, .int 0]))] sz) := by
  refine Met.ofW (cc := cX16_houseTold) (maxL := 5) (ret := (some .int)) (by decide) rfl ?_
  intro p e s m args below meth c s₁ B hml hv
  obtain ⟨rfl, hsz, hP, hK, hD0, hF⟩ := hv
  have hx := B.exec
  have hb := B.bytes
  have hr := B.returns
  have hts := atoms_spec (ws := wsX16_houseTold) B.pre
  have hown : s.vm.findClass RX16 = some m.cls := findClass_of_methodNamed B.named
  have hlocks := B.notSynchronized
  subst hsz
  have hD := hD0.self (sz := s.heap.size)
  generalize hAe : va_A [(h0, .inr (23, [v0, .ref h1, .int 20, .int 60, .ref (g 34), v1, .int 0, .int 0, .int 0])), (h1, .inr (6, [.int 0, v2, .int 0]))] s.heap.size = A at hD hF ⊢
  have hA : ∀ q : Nat, s.heap.size ≤ q → A q := fun q h => by rw [← hAe]; exact Or.inr h
  have hS : va_S A s.heap s.heap [] := va_S.rf
  have hP : va_P (dC, dI) vwCl [(h0, .inr (23, [v0, .ref h1, .int 20, .int 60, .ref (g 34), v1, .int 0, .int 0, .int 0])), (h1, .inr (6, [.int 0, v2, .int 0]))] s.heap := hP
  have hl := lv_entry ([.ref h0, .int 4]) (n := 5) (Nat.le_of_ble_eq_true rfl)
  rw [lg_entry_eq]
  generalize (lg_sl ([.ref h0, .int 4]) ++ List.replicate (5 - (lg_sl ([.ref h0, .int 4])).length) Slot.unset).toArray = ls at hl ⊢
  have hl : lv_has ls 5 [(0, .ref h0), (1, .int 4)] := hl
  refine lv_iconst (v := 0) hx hb dX16_houseTold_0 (by decide) ?_
  refine lv_istore_n (lv' := [(2, .int 0), (0, .ref h0), (1, .int 4)]) hx hb dX16_houseTold_1 rfl hl (by decide) rfl (fun ls hl => ?_)
  refine lv_aload_n hx hb dX16_houseTold_2 rfl (lv_at hl 1 rfl) ?_
  refine va_get (D := (dC, dI)) (ci := 23) (v := .ref h1) (C := RX16) (T := TX16) (N := 9) hx hb hts (by decide +kernel) hown hK hP 0 rfl rfl 1 (by decide) (hts (.fieldLink RX16 10 "NestprintModel" "nodes" "Ljava/util/ArrayList;") (by decide +kernel)) (fun _ h9 => h9) rfl dX16_houseTold_3 ?_
  have hPc := hP.sub (ws' := [(h1, .inr (6, [.int 0, v2, .int 0]))]) [1] rfl
  have hDc := hD.sub (ws' := [(h1, .inr (6, [.int 0, v2, .int 0]))]) [1] (by decide) rfl
  have hKc := hK.sub (tys' := []) [] rfl
  have hFc := va_free (wc := [(h1, .inr (6, [.int 0, v2, .int 0]))]) hD hS hA [1] rfl
  refine va_callr (va_runV (As := []) (rest := []) ⟨hx, hb, hml, hown, hts⟩ (kJx4a65c_iterator_32c93 l dC dI g s.heap.size h1 v2 (.int 0) ) (cwV 0 hts gX16_houseTold_Jx4a65c_iterator_32c93 rfl rfl rfl (by decide +kernel) ⟨Nat.le_of_ble_eq_true rfl, Nat.le_of_ble_eq_true rfl⟩) ⟨fun a U gg mk q => by obtain ⟨q0, q1, qP, qK, qD, qF⟩ := q; exact ⟨q0, q1, qP, va_K.moved (u := U) (U := U.calling gg mk a) (Vm.Alike.refl U.vm) qK, qD, ns_same qF⟩, va_recv hK hP (ci := 6) (q0 := 1) rfl rfl, fun U hU hW => ⟨rfl, by rw [hU], by rw [hU]; exact hPc, va_K.moved hW.alike hKc, hDc.weaken (fun _ _ _ _ => trivial), ns_call hF hS hFc hU hW⟩⟩ rfl rfl hl.1 rfl (lv_room (Nat.le_of_ble_eq_true rfl)) dX16_houseTold_6 ⟨Nat.le_of_ble_eq_true rfl, Nat.le_of_ble_eq_true rfl⟩) hS (fun q _ h => hFc q h) hFc (fun u r9 t H1 locs ht hvm hw hB hz1 hk1 hS => ?_)
  obtain ⟨q1, rfl, hP1, hK1, hD1⟩ := hB
  rw [ht] at hP1
  have hK1 := va_K.moved hvm.symm hK1
  obtain ⟨hP, hD⟩ := va_join (wr := [(h0, .inr (23, [v0, .ref h1, .int 20, .int 60, .ref (g 34), v1, .int 0, .int 0, .int 0]))]) (w1 := [(q1, .inr (5, [.int 0, .int (-1), .int 0, .ref h1])), (h1, .inr (6, [.int 0, v2, .int 0]))]) hP hD [1] [0] rfl rfl (by decide) (by decide) hk1 hFc hP1 hD1
  have hK := (hK.sub (tys' := []) [] rfl).app hK1
  generalize H1 = H at hP hS ⊢
  have hP : va_P (dC, dI) vwCl [(h0, .inr (23, [v0, .ref h1, .int 20, .int 60, .ref (g 34), v1, .int 0, .int 0, .int 0])), (q1, .inr (5, [.int 0, .int (-1), .int 0, .ref h1])), (h1, .inr (6, [.int 0, v2, .int 0]))] H := hP
  have hD : va_D A [(h0, .inr (23, [v0, .ref h1, .int 20, .int 60, .ref (g 34), v1, .int 0, .int 0, .int 0])), (q1, .inr (5, [.int 0, .int (-1), .int 0, .ref h1])), (h1, .inr (6, [.int 0, v2, .int 0]))] := hD
  have hK : va_K (dC, dI) vwCl [] s := hK
  refine W.widen (k := 1) (n := 4) (Nat.le_of_ble_eq_true rfl) (Nat.le_of_ble_eq_true rfl) ?_
  refine lv_astore_n (lv' := [(3, .ref q1), (2, .int 0), (0, .ref h0), (1, .int 4)]) hx hb dX16_houseTold_9 rfl hl (by decide) rfl (fun ls hl => ?_)
  refine lv_aload_n hx hb dX16_houseTold_10 rfl (lv_at hl 0 rfl) ?_
  have hPc := hP.sub (ws' := [(q1, .inr (5, [.int 0, .int (-1), .int 0, .ref h1])), (h1, .inr (6, [.int 0, v2, .int 0]))]) [1, 2] rfl
  have hDc := hD.sub (ws' := [(q1, .inr (5, [.int 0, .int (-1), .int 0, .ref h1])), (h1, .inr (6, [.int 0, v2, .int 0]))]) [1, 2] (by decide) rfl
  have hKc := hK.sub (tys' := []) [] rfl
  have hFc := va_free (wc := [(q1, .inr (5, [.int 0, .int (-1), .int 0, .ref h1])), (h1, .inr (6, [.int 0, v2, .int 0]))]) hD hS hA [1, 2] rfl
  refine va_callFi (va_runF (hK.1 5 _ rfl).2 (As := []) (rest := []) ⟨hx, hb, hml, hown, hts⟩ (kJx35411_hasNext_aae02 l dC dI g H.size q1 h1 (.int (-1)) (.int 0) (.int 0) v2 ) (va_cwF 0 hts gX16_houseTold_Jx35411_hasNext_aae02_f133Jx35411 rfl rfl rfl (ns_f51 hF) (by decide +kernel) ⟨Nat.le_of_ble_eq_true rfl, Nat.le_of_ble_eq_true rfl⟩) ⟨fun a U gg mk q => by obtain ⟨q0, q1, qP, qK, qD, qF⟩ := q; exact ⟨q0, q1, qP, va_K.moved (u := U) (U := U.calling gg mk a) (Vm.Alike.refl U.vm) qK, qD, ns_same qF⟩, va_recv hK hP (ci := 5) (q0 := 1) rfl rfl, fun U hU hW => ⟨rfl, by rw [hU], by rw [hU]; exact hPc, va_K.moved hW.alike hKc, hDc.weaken (fun _ _ _ _ => trivial), ns_call hF hS hFc hU hW⟩⟩ rfl rfl hl.1 rfl (lv_room (Nat.le_of_ble_eq_true rfl)) dX16_houseTold_11 ⟨Nat.le_of_ble_eq_true rfl, Nat.le_of_ble_eq_true rfl⟩) hS (fun q _ h => hFc q h) hFc (fun r9 u t H1 locs ht hvm hw hB hz1 hk1 hS => ?_)
  obtain rfl := hw
  obtain ⟨hP1, hK1, hD1⟩ := hB
  rw [ht] at hP1
  have hK1 := va_K.moved hvm.symm hK1
  obtain ⟨hP, hD⟩ := va_join (wr := [(h0, .inr (23, [v0, .ref h1, .int 20, .int 60, .ref (g 34), v1, .int 0, .int 0, .int 0]))]) (w1 := [(q1, .inr (5, [.int 0, .int (-1), .int 0, .ref h1])), (h1, .inr (6, [.int 0, v2, .int 0]))]) hP hD [1, 2] [0] rfl rfl (by decide) (by decide) hk1 hFc hP1 hD1
  have hK := (hK.sub (tys' := []) [] rfl).app hK1
  generalize H1 = H at hP hS ⊢
  have hP : va_P (dC, dI) vwCl [(h0, .inr (23, [v0, .ref h1, .int 20, .int 60, .ref (g 34), v1, .int 0, .int 0, .int 0])), (q1, .inr (5, [.int 0, .int (-1), .int 0, .ref h1])), (h1, .inr (6, [.int 0, v2, .int 0]))] H := hP
  have hD : va_D A [(h0, .inr (23, [v0, .ref h1, .int 20, .int 60, .ref (g 34), v1, .int 0, .int 0, .int 0])), (q1, .inr (5, [.int 0, .int (-1), .int 0, .ref h1])), (h1, .inr (6, [.int 0, v2, .int 0]))] := hD
  have hK : va_K (dC, dI) vwCl [] s := hK
  refine W.widen (k := 1) (n := 4) (Nat.le_of_ble_eq_true rfl) (Nat.le_of_ble_eq_true rfl) ?_
  refine lv_if_eq (tgt := 41) hx hb dX16_houseTold_16 (by decide) (fun c2 => ?_) (fun c2 => absurd (by decide) c2)
  refine lv_bipush (v := 8) hx hb dX16_houseTold_41 (by decide) ?_
  refine va_newa (atype := .int) hx hb (hts (.arrayClass .int) (by decide +kernel)) rfl hK hP hD hS hA (N' := 8) (a0 := (8, .inl (fun _ => 0))) (fun _ => rfl) (by decide) (by decide) (Nat.le_of_ble_eq_true rfl) (Nat.le_of_ble_eq_true rfl) (Nat.le_of_ble_eq_true rfl) dX16_houseTold_43 (fun q3 cyq3 H hK hP hD hS => ?_)
  have hP : va_P (dC, dI) vwCl [(h0, .inr (23, [v0, .ref h1, .int 20, .int 60, .ref (g 34), v1, .int 0, .int 0, .int 0])), (q1, .inr (5, [.int 0, .int (-1), .int 0, .ref h1])), (h1, .inr (6, [.int 0, v2, .int 0])), (q3, .inl (cyq3, 8, .inl (fun _ => 0)))] H := hP
  have hD : va_D A [(h0, .inr (23, [v0, .ref h1, .int 20, .int 60, .ref (g 34), v1, .int 0, .int 0, .int 0])), (q1, .inr (5, [.int 0, .int (-1), .int 0, .ref h1])), (h1, .inr (6, [.int 0, v2, .int 0])), (q3, .inl (cyq3, 8, .inl (fun _ => 0)))] := hD
  have hK : va_K (dC, dI) vwCl [(cyq3, .int)] s := hK
  refine W.widen (k := 2) (n := 12) (Nat.le_of_ble_eq_true rfl) (Nat.le_of_ble_eq_true rfl) ?_
  refine lv_dup hx hb dX16_houseTold_45 rfl ?_
  refine lv_iconst (v := 0) hx hb dX16_houseTold_46 (by decide) ?_
  refine lv_aload_n hx hb dX16_houseTold_47 rfl (lv_at hl 2 rfl) ?_
  refine va_get (D := (dC, dI)) (ci := 23) (v := .ref h1) (C := RX16) (T := TX16) (N := 9) hx hb hts (by decide +kernel) hown hK hP 0 rfl rfl 1 (by decide) (hts (.fieldLink RX16 10 "NestprintModel" "nodes" "Ljava/util/ArrayList;") (by decide +kernel)) (fun _ h9 => h9) rfl dX16_houseTold_48 ?_
  have hPc := hP.sub (ws' := [(h1, .inr (6, [.int 0, v2, .int 0]))]) [2] rfl
  have hDc := hD.sub (ws' := [(h1, .inr (6, [.int 0, v2, .int 0]))]) [2] (by decide) rfl
  have hKc := hK.sub (tys' := []) [] rfl
  have hFc := va_free (wc := [(h1, .inr (6, [.int 0, v2, .int 0]))]) hD hS hA [2] rfl
  refine va_calli (va_runV (As := []) (rest := [.int 0, .ref q3, .ref q3]) ⟨hx, hb, hml, hown, hts⟩ (kJx4a65c_size_8abf5 l dC dI g H.size h1 (.int 0) v2 ) (cwV 0 hts gX16_houseTold_Jx4a65c_size_8abf5 rfl rfl rfl (by decide +kernel) ⟨Nat.le_of_ble_eq_true rfl, Nat.le_of_ble_eq_true rfl⟩) ⟨fun a U gg mk q => by obtain ⟨q0, q1, qP, qK, qD, qF⟩ := q; exact ⟨q0, q1, qP, va_K.moved (u := U) (U := U.calling gg mk a) (Vm.Alike.refl U.vm) qK, qD, ns_same qF⟩, va_recv hK hP (ci := 6) (q0 := 2) rfl rfl, fun U hU hW => ⟨rfl, by rw [hU], by rw [hU]; exact hPc, va_K.moved hW.alike hKc, hDc.weaken (fun _ _ _ _ => trivial), ns_call hF hS hFc hU hW⟩⟩ rfl rfl hl.1 rfl (lv_room (Nat.le_of_ble_eq_true rfl)) dX16_houseTold_51 ⟨Nat.le_of_ble_eq_true rfl, Nat.le_of_ble_eq_true rfl⟩) hS (fun q _ h => hFc q h) hFc (fun r9 u t H1 locs ht hvm hw hB hz1 hk1 hS => ?_)
  obtain rfl := hw
  obtain ⟨hP1, hK1, hD1⟩ := hB
  rw [ht] at hP1
  have hK1 := va_K.moved hvm.symm hK1
  obtain ⟨hP, hD⟩ := va_join (wr := [(h0, .inr (23, [v0, .ref h1, .int 20, .int 60, .ref (g 34), v1, .int 0, .int 0, .int 0])), (q1, .inr (5, [.int 0, .int (-1), .int 0, .ref h1])), (q3, .inl (cyq3, 8, .inl (fun _ => 0)))]) (w1 := [(h1, .inr (6, [.int 0, v2, .int 0]))]) hP hD [2] [0, 1, 3] rfl rfl (by decide) (by decide) hk1 hFc hP1 hD1
  have hK := (hK.sub (tys' := [(cyq3, .int)]) [0] rfl).app hK1
  generalize H1 = H at hP hS ⊢
  have hP : va_P (dC, dI) vwCl [(h0, .inr (23, [v0, .ref h1, .int 20, .int 60, .ref (g 34), v1, .int 0, .int 0, .int 0])), (q1, .inr (5, [.int 0, .int (-1), .int 0, .ref h1])), (q3, .inl (cyq3, 8, .inl (fun _ => 0))), (h1, .inr (6, [.int 0, v2, .int 0]))] H := hP
  have hD : va_D A [(h0, .inr (23, [v0, .ref h1, .int 20, .int 60, .ref (g 34), v1, .int 0, .int 0, .int 0])), (q1, .inr (5, [.int 0, .int (-1), .int 0, .ref h1])), (q3, .inl (cyq3, 8, .inl (fun _ => 0))), (h1, .inr (6, [.int 0, v2, .int 0]))] := hD
  have hK : va_K (dC, dI) vwCl [(cyq3, .int)] s := hK
  refine W.widen (k := 2) (n := 12) (Nat.le_of_ble_eq_true rfl) (Nat.le_of_ble_eq_true rfl) ?_
  refine va_iast hx hb hK hP hD hS 2 0 rfl rfl (vp_in_nI (n := 0) (by decide) (by decide)) dX16_houseTold_54 (fun H locs hP hD hS => ?_)
  have hP : va_P (dC, dI) vwCl [(h0, .inr (23, [v0, .ref h1, .int 20, .int 60, .ref (g 34), v1, .int 0, .int 0, .int 0])), (q1, .inr (5, [.int 0, .int (-1), .int 0, .ref h1])), (q3, .inl (cyq3, 8, .inl (upd (fun _ => 0) 0 0))), (h1, .inr (6, [.int 0, v2, .int 0]))] H := hP
  have hD : va_D A [(h0, .inr (23, [v0, .ref h1, .int 20, .int 60, .ref (g 34), v1, .int 0, .int 0, .int 0])), (q1, .inr (5, [.int 0, .int (-1), .int 0, .ref h1])), (q3, .inl (cyq3, 8, .inl (upd (fun _ => 0) 0 0))), (h1, .inr (6, [.int 0, v2, .int 0]))] := hD
  refine lv_dup hx hb dX16_houseTold_55 rfl ?_
  refine lv_iconst (v := 1) hx hb dX16_houseTold_56 (by decide) ?_
  refine lv_aload_n hx hb dX16_houseTold_57 rfl (lv_at hl 2 rfl) ?_
  refine va_get (D := (dC, dI)) (ci := 23) (v := .int 20) (C := RX16) (T := TX16) (N := 9) hx hb hts (by decide +kernel) hown hK hP 0 rfl rfl 2 (by decide) (hts (.fieldLink RX16 16 "NestprintModel" "width" "I") (by decide +kernel)) (fun _ h9 => h9) rfl dX16_houseTold_58 ?_
  refine va_iast hx hb hK hP hD hS 2 0 rfl rfl (vp_in_nI (n := 1) (by decide) (by decide)) dX16_houseTold_61 (fun H locs hP hD hS => ?_)
  have hP : va_P (dC, dI) vwCl [(h0, .inr (23, [v0, .ref h1, .int 20, .int 60, .ref (g 34), v1, .int 0, .int 0, .int 0])), (q1, .inr (5, [.int 0, .int (-1), .int 0, .ref h1])), (q3, .inl (cyq3, 8, .inl (upd (upd (fun _ => 0) 0 0) 1 20))), (h1, .inr (6, [.int 0, v2, .int 0]))] H := hP
  have hD : va_D A [(h0, .inr (23, [v0, .ref h1, .int 20, .int 60, .ref (g 34), v1, .int 0, .int 0, .int 0])), (q1, .inr (5, [.int 0, .int (-1), .int 0, .ref h1])), (q3, .inl (cyq3, 8, .inl (upd (upd (fun _ => 0) 0 0) 1 20))), (h1, .inr (6, [.int 0, v2, .int 0]))] := hD
  refine lv_dup hx hb dX16_houseTold_62 rfl ?_
  refine lv_iconst (v := 2) hx hb dX16_houseTold_63 (by decide) ?_
  refine lv_aload_n hx hb dX16_houseTold_64 rfl (lv_at hl 2 rfl) ?_
  refine va_get (D := (dC, dI)) (ci := 23) (v := .int 60) (C := RX16) (T := TX16) (N := 9) hx hb hts (by decide +kernel) hown hK hP 0 rfl rfl 3 (by decide) (hts (.fieldLink RX16 20 "NestprintModel" "ribbon" "I") (by decide +kernel)) (fun _ h9 => h9) rfl dX16_houseTold_65 ?_
  refine va_iast hx hb hK hP hD hS 2 0 rfl rfl (vp_in_nI (n := 2) (by decide) (by decide)) dX16_houseTold_68 (fun H locs hP hD hS => ?_)
  have hP : va_P (dC, dI) vwCl [(h0, .inr (23, [v0, .ref h1, .int 20, .int 60, .ref (g 34), v1, .int 0, .int 0, .int 0])), (q1, .inr (5, [.int 0, .int (-1), .int 0, .ref h1])), (q3, .inl (cyq3, 8, .inl (upd (upd (upd (fun _ => 0) 0 0) 1 20) 2 60))), (h1, .inr (6, [.int 0, v2, .int 0]))] H := hP
  have hD : va_D A [(h0, .inr (23, [v0, .ref h1, .int 20, .int 60, .ref (g 34), v1, .int 0, .int 0, .int 0])), (q1, .inr (5, [.int 0, .int (-1), .int 0, .ref h1])), (q3, .inl (cyq3, 8, .inl (upd (upd (upd (fun _ => 0) 0 0) 1 20) 2 60))), (h1, .inr (6, [.int 0, v2, .int 0]))] := hD
  refine lv_dup hx hb dX16_houseTold_69 rfl ?_
  refine lv_iconst (v := 3) hx hb dX16_houseTold_70 (by decide) ?_
  refine lv_aload_n hx hb dX16_houseTold_71 rfl (lv_at hl 2 rfl) ?_
  refine va_get (D := (dC, dI)) (ci := 23) (v := .ref (g 34)) (C := RX16) (T := TX16) (N := 9) hx hb hts (by decide +kernel) hown hK hP 0 rfl rfl 4 (by decide) (hts (.fieldLink RX16 25 "NestprintModel" "typed" "Ljava/lang/String;") (by decide +kernel)) (fun _ h9 => h9) rfl dX16_houseTold_72 ?_
  have hPc := hP.sub (ws' := []) [] rfl
  have hDc := hD.sub (ws' := []) [] (by decide) rfl
  have hKc := hK.sub (tys' := []) [] rfl
  have hFc := va_free (wc := []) hD hS hA [] rfl
  refine va_calli (va_runV (As := []) (rest := [.int 3, .ref q3, .ref q3]) ⟨hx, hb, hml, hown, hts⟩ (kJ0_length_8abf5 l dC dI g H.size  ) (cwV 0 hts gX16_houseTold_J0_length_8abf5 rfl rfl rfl (by decide +kernel) ⟨Nat.le_of_ble_eq_true rfl, Nat.le_of_ble_eq_true rfl⟩) ⟨fun a U gg mk q => by obtain ⟨q0, q1, qP, qK, qD, qF⟩ := q; exact ⟨q0, q1, qP, va_K.moved (u := U) (U := U.calling gg mk a) (Vm.Alike.refl U.vm) qK, qD, ns_same qF⟩, va_Orecv (ns_f37 hF) hS, fun U hU hW => ⟨rfl, by rw [hU], by rw [hU]; exact hPc, va_K.moved hW.alike hKc, hDc.weaken (fun _ _ _ _ => trivial), ns_call hF hS hFc hU hW⟩⟩ rfl rfl hl.1 rfl (lv_room (Nat.le_of_ble_eq_true rfl)) dX16_houseTold_75 ⟨Nat.le_of_ble_eq_true rfl, Nat.le_of_ble_eq_true rfl⟩) hS (fun q _ h => hFc q h) hFc (fun r9 u t H1 locs ht hvm hw hB hz1 hk1 hS => ?_)
  obtain rfl := hw
  obtain ⟨hP1, hK1, hD1⟩ := hB
  rw [ht] at hP1
  have hK1 := va_K.moved hvm.symm hK1
  obtain ⟨hP, hD⟩ := va_join (wr := [(h0, .inr (23, [v0, .ref h1, .int 20, .int 60, .ref (g 34), v1, .int 0, .int 0, .int 0])), (q1, .inr (5, [.int 0, .int (-1), .int 0, .ref h1])), (q3, .inl (cyq3, 8, .inl (upd (upd (upd (fun _ => 0) 0 0) 1 20) 2 60))), (h1, .inr (6, [.int 0, v2, .int 0]))]) (w1 := []) hP hD [] [0, 1, 2, 3] rfl rfl (by decide) (by decide) hk1 hFc hP1 hD1
  have hK := (hK.sub (tys' := [(cyq3, .int)]) [0] rfl).app hK1
  generalize H1 = H at hP hS ⊢
  have hP : va_P (dC, dI) vwCl [(h0, .inr (23, [v0, .ref h1, .int 20, .int 60, .ref (g 34), v1, .int 0, .int 0, .int 0])), (q1, .inr (5, [.int 0, .int (-1), .int 0, .ref h1])), (q3, .inl (cyq3, 8, .inl (upd (upd (upd (fun _ => 0) 0 0) 1 20) 2 60))), (h1, .inr (6, [.int 0, v2, .int 0]))] H := hP
  have hD : va_D A [(h0, .inr (23, [v0, .ref h1, .int 20, .int 60, .ref (g 34), v1, .int 0, .int 0, .int 0])), (q1, .inr (5, [.int 0, .int (-1), .int 0, .ref h1])), (q3, .inl (cyq3, 8, .inl (upd (upd (upd (fun _ => 0) 0 0) 1 20) 2 60))), (h1, .inr (6, [.int 0, v2, .int 0]))] := hD
  have hK : va_K (dC, dI) vwCl [(cyq3, .int)] s := hK
  refine W.widen (k := 2) (n := 12) (Nat.le_of_ble_eq_true rfl) (Nat.le_of_ble_eq_true rfl) ?_
  refine va_iast hx hb hK hP hD hS 2 0 rfl rfl (vp_in_nI (n := 3) (by decide) (by decide)) dX16_houseTold_78 (fun H locs hP hD hS => ?_)
  have hP : va_P (dC, dI) vwCl [(h0, .inr (23, [v0, .ref h1, .int 20, .int 60, .ref (g 34), v1, .int 0, .int 0, .int 0])), (q1, .inr (5, [.int 0, .int (-1), .int 0, .ref h1])), (q3, .inl (cyq3, 8, .inl (upd (upd (upd (upd (fun _ => 0) 0 0) 1 20) 2 60) 3 0))), (h1, .inr (6, [.int 0, v2, .int 0]))] H := hP
  have hD : va_D A [(h0, .inr (23, [v0, .ref h1, .int 20, .int 60, .ref (g 34), v1, .int 0, .int 0, .int 0])), (q1, .inr (5, [.int 0, .int (-1), .int 0, .ref h1])), (q3, .inl (cyq3, 8, .inl (upd (upd (upd (upd (fun _ => 0) 0 0) 1 20) 2 60) 3 0))), (h1, .inr (6, [.int 0, v2, .int 0]))] := hD
  refine lv_dup hx hb dX16_houseTold_79 rfl ?_
  refine lv_iconst (v := 4) hx hb dX16_houseTold_80 (by decide) ?_
  refine lv_aload_n hx hb dX16_houseTold_81 rfl (lv_at hl 2 rfl) ?_
  refine va_get (D := (dC, dI)) (ci := 23) (v := .int 0) (C := RX16) (T := TX16) (N := 9) hx hb hts (by decide +kernel) hown hK hP 0 rfl rfl 6 (by decide) (hts (.fieldLink RX16 272 "NestprintModel" "counted" "I") (by decide +kernel)) (fun _ h9 => h9) rfl dX16_houseTold_82 ?_
  refine va_iast hx hb hK hP hD hS 2 0 rfl rfl (vp_in_nI (n := 4) (by decide) (by decide)) dX16_houseTold_85 (fun H locs hP hD hS => ?_)
  have hP : va_P (dC, dI) vwCl [(h0, .inr (23, [v0, .ref h1, .int 20, .int 60, .ref (g 34), v1, .int 0, .int 0, .int 0])), (q1, .inr (5, [.int 0, .int (-1), .int 0, .ref h1])), (q3, .inl (cyq3, 8, .inl (upd (upd (upd (upd (upd (fun _ => 0) 0 0) 1 20) 2 60) 3 0) 4 0))), (h1, .inr (6, [.int 0, v2, .int 0]))] H := hP
  have hD : va_D A [(h0, .inr (23, [v0, .ref h1, .int 20, .int 60, .ref (g 34), v1, .int 0, .int 0, .int 0])), (q1, .inr (5, [.int 0, .int (-1), .int 0, .ref h1])), (q3, .inl (cyq3, 8, .inl (upd (upd (upd (upd (upd (fun _ => 0) 0 0) 1 20) 2 60) 3 0) 4 0))), (h1, .inr (6, [.int 0, v2, .int 0]))] := hD
  refine lv_dup hx hb dX16_houseTold_86 rfl ?_
  refine lv_iconst (v := 5) hx hb dX16_houseTold_87 (by decide) ?_
  refine lv_aload_n hx hb dX16_houseTold_88 rfl (lv_at hl 2 rfl) ?_
  refine va_get (D := (dC, dI)) (ci := 23) (v := .int 0) (C := RX16) (T := TX16) (N := 9) hx hb hts (by decide +kernel) hown hK hP 0 rfl rfl 7 (by decide) (hts (.fieldLink RX16 275 "NestprintModel" "knocks" "I") (by decide +kernel)) (fun _ h9 => h9) rfl dX16_houseTold_89 ?_
  refine va_iast hx hb hK hP hD hS 2 0 rfl rfl (vp_in_nI (n := 5) (by decide) (by decide)) dX16_houseTold_92 (fun H locs hP hD hS => ?_)
  have hP : va_P (dC, dI) vwCl [(h0, .inr (23, [v0, .ref h1, .int 20, .int 60, .ref (g 34), v1, .int 0, .int 0, .int 0])), (q1, .inr (5, [.int 0, .int (-1), .int 0, .ref h1])), (q3, .inl (cyq3, 8, .inl (upd (upd (upd (upd (upd (upd (fun _ => 0) 0 0) 1 20) 2 60) 3 0) 4 0) 5 0))), (h1, .inr (6, [.int 0, v2, .int 0]))] H := hP
  have hD : va_D A [(h0, .inr (23, [v0, .ref h1, .int 20, .int 60, .ref (g 34), v1, .int 0, .int 0, .int 0])), (q1, .inr (5, [.int 0, .int (-1), .int 0, .ref h1])), (q3, .inl (cyq3, 8, .inl (upd (upd (upd (upd (upd (upd (fun _ => 0) 0 0) 1 20) 2 60) 3 0) 4 0) 5 0))), (h1, .inr (6, [.int 0, v2, .int 0]))] := hD
  refine lv_dup hx hb dX16_houseTold_93 rfl ?_
  refine lv_bipush (v := 6) hx hb dX16_houseTold_94 (by decide) ?_
  refine lv_aload_n hx hb dX16_houseTold_96 rfl (lv_at hl 2 rfl) ?_
  refine va_get (D := (dC, dI)) (ci := 23) (v := .int 0) (C := RX16) (T := TX16) (N := 9) hx hb hts (by decide +kernel) hown hK hP 0 rfl rfl 8 (by decide) (hts (.fieldLink RX16 193 "NestprintModel" "ever" "I") (by decide +kernel)) (fun _ h9 => h9) rfl dX16_houseTold_97 ?_
  refine va_iast hx hb hK hP hD hS 2 0 rfl rfl (vp_in_nI (n := 6) (by decide) (by decide)) dX16_houseTold_100 (fun H locs hP hD hS => ?_)
  have hP : va_P (dC, dI) vwCl [(h0, .inr (23, [v0, .ref h1, .int 20, .int 60, .ref (g 34), v1, .int 0, .int 0, .int 0])), (q1, .inr (5, [.int 0, .int (-1), .int 0, .ref h1])), (q3, .inl (cyq3, 8, .inl (upd (upd (upd (upd (upd (upd (upd (fun _ => 0) 0 0) 1 20) 2 60) 3 0) 4 0) 5 0) 6 0))), (h1, .inr (6, [.int 0, v2, .int 0]))] H := hP
  have hD : va_D A [(h0, .inr (23, [v0, .ref h1, .int 20, .int 60, .ref (g 34), v1, .int 0, .int 0, .int 0])), (q1, .inr (5, [.int 0, .int (-1), .int 0, .ref h1])), (q3, .inl (cyq3, 8, .inl (upd (upd (upd (upd (upd (upd (upd (fun _ => 0) 0 0) 1 20) 2 60) 3 0) 4 0) 5 0) 6 0))), (h1, .inr (6, [.int 0, v2, .int 0]))] := hD
  refine lv_dup hx hb dX16_houseTold_101 rfl ?_
  refine lv_bipush (v := 7) hx hb dX16_houseTold_102 (by decide) ?_
  refine lv_iload_n hx hb dX16_houseTold_104 rfl (lv_at hl 1 rfl) ?_
  refine va_iast hx hb hK hP hD hS 2 0 rfl rfl (vp_in_nI (n := 7) (by decide) (by decide)) dX16_houseTold_105 (fun H locs hP hD hS => ?_)
  have hP : va_P (dC, dI) vwCl [(h0, .inr (23, [v0, .ref h1, .int 20, .int 60, .ref (g 34), v1, .int 0, .int 0, .int 0])), (q1, .inr (5, [.int 0, .int (-1), .int 0, .ref h1])), (q3, .inl (cyq3, 8, .inl (upd (upd (upd (upd (upd (upd (upd (upd (fun _ => 0) 0 0) 1 20) 2 60) 3 0) 4 0) 5 0) 6 0) 7 0))), (h1, .inr (6, [.int 0, v2, .int 0]))] H := hP
  have hD : va_D A [(h0, .inr (23, [v0, .ref h1, .int 20, .int 60, .ref (g 34), v1, .int 0, .int 0, .int 0])), (q1, .inr (5, [.int 0, .int (-1), .int 0, .ref h1])), (q3, .inl (cyq3, 8, .inl (upd (upd (upd (upd (upd (upd (upd (upd (fun _ => 0) 0 0) 1 20) 2 60) 3 0) 4 0) 5 0) 6 0) 7 0))), (h1, .inr (6, [.int 0, v2, .int 0]))] := hD
  refine lv_astore_n (lv' := [(3, .ref q3), (2, .int 0), (0, .ref h0), (1, .int 4)]) hx hb dX16_houseTold_106 rfl hl (by decide) rfl (fun ls hl => ?_)
  refine lv_aload_n hx hb dX16_houseTold_107 rfl (lv_at hl 0 rfl) ?_
  refine lv_iload_n hx hb dX16_houseTold_108 rfl (lv_at hl 3 rfl) ?_
  refine va_iald hx hb hK hP 2 0 rfl rfl (vp_in_nI (n := 4) (by decide) (by decide)) dX16_houseTold_109 ?_
  refine lv_topi (fun y4 ey4 => ?_)
  obtain rfl : y4 = 0 := ey4
  have hP9 := hP.sub (ws' := [(h0, .inr (23, [v0, .ref h1, .int 20, .int 60, .ref (g 34), v1, .int 0, .int 0, .int 0])), (q1, .inr (5, [.int 0, .int (-1), .int 0, .ref h1])), (q3, .inl (cyq3, 8, .inl (upd (upd (upd (upd (upd (upd (upd (upd (fun _ => 0) 0 0) 1 20) 2 60) 3 0) 4 0) 5 0) 6 0) 7 0))), (h1, .inr (6, [.int 0, v2, .int 0]))]) [0, 1, 2, 3] rfl
  have hD9 := hD.sub (ws' := [(h0, .inr (23, [v0, .ref h1, .int 20, .int 60, .ref (g 34), v1, .int 0, .int 0, .int 0])), (q1, .inr (5, [.int 0, .int (-1), .int 0, .ref h1])), (q3, .inl (cyq3, 8, .inl (upd (upd (upd (upd (upd (upd (upd (upd (fun _ => 0) 0 0) 1 20) 2 60) 3 0) 4 0) 5 0) 6 0) 7 0))), (h1, .inr (6, [.int 0, v2, .int 0]))]) [0, 1, 2, 3] (by decide) rfl
  have hK9 := hK.sub (tys' := [(cyq3, .int)]) [0] rfl
  refine W.widen (k := 2) (n := 12) (Nat.le_of_ble_eq_true rfl) (Nat.le_of_ble_eq_true rfl) ?_
  exact W.iret (v := 0) hx hb hr (fun t ht hW => ⟨⟨_, (), rfl, rfl, q1, q3, cyq3, by rw [ht]; exact hP9, va_K.moved hW.alike hK9, hD9⟩, hS.F ht⟩) hS.2.2 dX16_houseTold_110
set_option maxHeartbeats 4000000 in
set_option maxRecDepth 100000 in
theorem kX16_house_6 (l : Launch) (dC : Nat → ClassId) (dI : Nat → Nat → Nat) (g : Nat → Nat) (sz : Nat) (h0 : Nat) (h1 : Nat) (v0 : Value) (v1 : Value) (v2 : Value) : Met l yX16_house wsX16_house ({ frames := 4, cells := 2, slots := 12, locals := 77 }) (va_Pc [.ref h0, .int 4] (fun U => U.heap.size = sz ∧ va_P (dC, dI) vwCl [(h0, .inr (23, [v0, .ref h1, .int 20, .int 60, .ref (g 34), v1, .int 0, .int 0, .int 0])), (h1, .inr (6, [.int 0, v2, .int 0]))] U.heap ∧ va_K (dC, dI) vwCl [] U ∧ va_D (fun _ => True) [(h0, .inr (23, [v0, .ref h1, .int 20, .int 60, .ref (g 34), v1, .int 0, .int 0, .int 0])), (h1, .inr (6, [.int 0, v2, .int 0]))] ∧ ns_F g (va_A [(h0, .inr (23, [v0, .ref h1, .int 20, .int 60, .ref (g 34), v1, .int 0, .int 0, .int 0])), (h1, .inr (6, [.int 0, v2, .int 0]))] sz) U U.heap)) (va_Qi (fun (r : Int32) (_ : Unit) => r = 0) (fun _ t => ∃ k0 : Nat, ∃ k1 : Nat, ∃ kc2 : ClassId, va_P (dC, dI) vwCl [(h0, .inr (23, [.int 0, .ref h1, .int 20, .int 60, .ref (g 34), v1, .int 0, .int 0, .int 0])), (k0, .inr (5, [.int 0, .int (-1), .int 0, .ref h1])), (k1, .inl (kc2, 8, .inl (upd (upd (upd (upd (upd (upd (upd (upd (fun _ => 0) 0 0) 1 20) 2 60) 3 0) 4 0) 5 0) 6 0) 7 0))), (h1, .inr (6, [.int 0, v2, .int 0]))] t.heap ∧ va_K (dC, dI) vwCl [(kc2, .int)] t ∧ va_D (va_A [(h0, .inr (23, [v0, .ref h1, .int 20, .int 60, .ref (g 34), v1, .int 0, .int 0, .int 0])), (h1, .inr (6, [.int 0, v2, .int 0]))] sz) [(h0, .inr (23, [.int 0, .ref h1, .int 20, .int 60, .ref (g 34), v1, .int 0, .int 0, .int 0])), (k0, .inr (5, [.int 0, .int (-1), .int 0, .ref h1])), (k1, .inl (kc2, 8, .inl (upd (upd (upd (upd (upd (upd (upd (upd (fun _ => 0) 0 0) 1 20) 2 60) 3 0) 4 0) 5 0) 6 0) 7 0))), (h1, .inr (6, [.int 0, v2, .int 0]))]) (va_A [(h0, .inr (23, [v0, .ref h1, .int 20, .int 60, .ref (g 34), v1, .int 0, .int 0, .int 0])), (h1, .inr (6, [.int 0, v2, .int 0]))] sz)) 2 12 (va_A [(h0, .inr (23, [v0, .ref h1, .int 20, .int 60, .ref (g 34), v1, .int 0, .int 0, .int 0])), (h1, .inr (6, [.int 0, v2, .int 0]))] sz) := by
  refine Met.ofW (cc := cX16_house) (maxL := 2) (ret := (some .int)) (by decide) rfl ?_
  intro p e s m args below meth c s₁ B hml hv
  obtain ⟨rfl, hsz, hP, hK, hD0, hF⟩ := hv
  have hx := B.exec
  have hb := B.bytes
  have hr := B.returns
  have hts := atoms_spec (ws := wsX16_house) B.pre
  have hown : s.vm.findClass RX16 = some m.cls := findClass_of_methodNamed B.named
  have hlocks := B.notSynchronized
  subst hsz
  have hD := hD0.self (sz := s.heap.size)
  generalize hAe : va_A [(h0, .inr (23, [v0, .ref h1, .int 20, .int 60, .ref (g 34), v1, .int 0, .int 0, .int 0])), (h1, .inr (6, [.int 0, v2, .int 0]))] s.heap.size = A at hD hF ⊢
  have hA : ∀ q : Nat, s.heap.size ≤ q → A q := fun q h => by rw [← hAe]; exact Or.inr h
  have hS : va_S A s.heap s.heap [] := va_S.rf
  have hP : va_P (dC, dI) vwCl [(h0, .inr (23, [v0, .ref h1, .int 20, .int 60, .ref (g 34), v1, .int 0, .int 0, .int 0])), (h1, .inr (6, [.int 0, v2, .int 0]))] s.heap := hP
  have hl := lv_entry ([.ref h0, .int 4]) (n := 2) (Nat.le_of_ble_eq_true rfl)
  rw [lg_entry_eq]
  generalize (lg_sl ([.ref h0, .int 4]) ++ List.replicate (2 - (lg_sl ([.ref h0, .int 4])).length) Slot.unset).toArray = ls at hl ⊢
  have hl : lv_has ls 2 [(0, .ref h0), (1, .int 4)] := hl
  refine lv_aload_n hx hb dX16_house_0 rfl (lv_at hl 0 rfl) ?_
  refine lv_iload_n hx hb dX16_house_1 rfl (lv_at hl 1 rfl) ?_
  refine lv_iconst (v := 0) hx hb dX16_house_2 (by decide) ?_
  refine lv_bipush (v := 7) hx hb dX16_house_3 (by decide) ?_
  have hPc := hP.sub (ws' := []) [] rfl
  have hDc := hD.sub (ws' := []) [] (by decide) rfl
  have hKc := hK.sub (tys' := []) [] rfl
  have hFc := va_free (wc := []) hD hS hA [] rfl
  refine va_calli (va_runS (As := [.int 4, .int 0, .int 7]) (rest := [.ref h0]) ⟨hx, hb, hml, hown, hts⟩ (kX16_isIn_20 l dC dI g s.heap.size  ) (va_cwS 3 hts gX16_house_X16_isIn rfl rfl rfl (by decide +kernel) ⟨Nat.le_of_ble_eq_true rfl, Nat.le_of_ble_eq_true rfl⟩) ⟨fun a U gg mk q => by obtain ⟨q0, q1, qP, qK, qD, qF⟩ := q; exact ⟨q0, q1, qP, va_K.moved (u := U) (U := U.calling gg mk a) (Vm.Alike.refl U.vm) qK, qD, ns_same qF⟩, fun U hU hW => ⟨rfl, by rw [hU], by rw [hU]; exact hPc, va_K.moved hW.alike hKc, hDc.weaken (fun _ _ _ _ => trivial), ns_call hF hS hFc hU hW⟩⟩ rfl rfl hl.1 rfl (lv_room (Nat.le_of_ble_eq_true rfl)) dX16_house_5 ⟨Nat.le_of_ble_eq_true rfl, Nat.le_of_ble_eq_true rfl⟩) hS (fun q _ h => hFc q h) hFc (fun r9 u t H1 locs ht hvm hw hB hz1 hk1 hS => ?_)
  obtain rfl := hw
  obtain ⟨hP1, hK1, hD1⟩ := hB
  rw [ht] at hP1
  have hK1 := va_K.moved hvm.symm hK1
  obtain ⟨hP, hD⟩ := va_join (wr := [(h0, .inr (23, [v0, .ref h1, .int 20, .int 60, .ref (g 34), v1, .int 0, .int 0, .int 0])), (h1, .inr (6, [.int 0, v2, .int 0]))]) (w1 := []) hP hD [] [0, 1] rfl rfl (by decide) (by decide) hk1 hFc hP1 hD1
  have hK := (hK.sub (tys' := []) [] rfl).app hK1
  generalize H1 = H at hP hS ⊢
  have hP : va_P (dC, dI) vwCl [(h0, .inr (23, [v0, .ref h1, .int 20, .int 60, .ref (g 34), v1, .int 0, .int 0, .int 0])), (h1, .inr (6, [.int 0, v2, .int 0]))] H := hP
  have hD : va_D A [(h0, .inr (23, [v0, .ref h1, .int 20, .int 60, .ref (g 34), v1, .int 0, .int 0, .int 0])), (h1, .inr (6, [.int 0, v2, .int 0]))] := hD
  have hK : va_K (dC, dI) vwCl [] s := hK
  refine W.widen (k := 0) (n := 0) (Nat.le_of_ble_eq_true rfl) (Nat.le_of_ble_eq_true rfl) ?_
  refine lv_if_ne (tgt := 15) hx hb dX16_house_8 (by decide) (fun c1 => ?_) (fun c1 => absurd c1 (by decide))
  refine lv_iconst (v := 0) hx hb dX16_house_15 (by decide) ?_
  refine lv_iconst (v := 1) hx hb dX16_house_16 (by decide) ?_
  have hPc := hP.sub (ws' := [(h0, .inr (23, [v0, .ref h1, .int 20, .int 60, .ref (g 34), v1, .int 0, .int 0, .int 0]))]) [0] rfl
  have hDc := hD.sub (ws' := [(h0, .inr (23, [v0, .ref h1, .int 20, .int 60, .ref (g 34), v1, .int 0, .int 0, .int 0]))]) [0] (by decide) rfl
  have hKc := hK.sub (tys' := []) [] rfl
  have hFc := va_free (wc := [(h0, .inr (23, [v0, .ref h1, .int 20, .int 60, .ref (g 34), v1, .int 0, .int 0, .int 0]))]) hD hS hA [0] rfl
  refine va_calli (va_runV (As := [.int 0, .int 1]) (rest := []) ⟨hx, hb, hml, hown, hts⟩ (kX16_start_2 l dC dI g H.size h0 v0 (.ref h1) (.int 20) (.int 60) (.ref (g 34)) v1 (.int 0) (.int 0) (.int 0) ) (cwV 2 hts gX16_house_X16_start rfl rfl rfl (by decide +kernel) ⟨Nat.le_of_ble_eq_true rfl, Nat.le_of_ble_eq_true rfl⟩) ⟨fun a U gg mk q => by obtain ⟨q0, q1, qP, qK, qD, qF⟩ := q; exact ⟨q0, q1, qP, va_K.moved (u := U) (U := U.calling gg mk a) (Vm.Alike.refl U.vm) qK, qD, ns_same qF⟩, va_recv hK hP (ci := 23) (q0 := 0) rfl rfl, fun U hU hW => ⟨rfl, by rw [hU], by rw [hU]; exact hPc, va_K.moved hW.alike hKc, hDc.weaken (fun _ _ _ _ => trivial), ns_call hF hS hFc hU hW⟩⟩ rfl rfl hl.1 rfl (lv_room (Nat.le_of_ble_eq_true rfl)) dX16_house_17 ⟨Nat.le_of_ble_eq_true rfl, Nat.le_of_ble_eq_true rfl⟩) hS (fun q _ h => hFc q h) hFc (fun r9 u t H1 locs ht hvm hw hB hz1 hk1 hS => ?_)
  obtain rfl := hw
  obtain ⟨hP1, hK1, hD1⟩ := hB
  rw [ht] at hP1
  have hK1 := va_K.moved hvm.symm hK1
  obtain ⟨hP, hD⟩ := va_join (wr := [(h1, .inr (6, [.int 0, v2, .int 0]))]) (w1 := [(h0, .inr (23, [.int 0, .ref h1, .int 20, .int 60, .ref (g 34), v1, .int 0, .int 0, .int 0]))]) hP hD [0] [1] rfl rfl (by decide) (by decide) hk1 hFc hP1 hD1
  have hK := (hK.sub (tys' := []) [] rfl).app hK1
  generalize H1 = H at hP hS ⊢
  have hP : va_P (dC, dI) vwCl [(h1, .inr (6, [.int 0, v2, .int 0])), (h0, .inr (23, [.int 0, .ref h1, .int 20, .int 60, .ref (g 34), v1, .int 0, .int 0, .int 0]))] H := hP
  have hD : va_D A [(h1, .inr (6, [.int 0, v2, .int 0])), (h0, .inr (23, [.int 0, .ref h1, .int 20, .int 60, .ref (g 34), v1, .int 0, .int 0, .int 0]))] := hD
  have hK : va_K (dC, dI) vwCl [] s := hK
  refine W.widen (k := 0) (n := 0) (Nat.le_of_ble_eq_true rfl) (Nat.le_of_ble_eq_true rfl) ?_
  refine lv_if_eq (tgt := 27) hx hb dX16_house_20 (by decide) (fun c2 => ?_) (fun c2 => absurd (by decide) c2)
  refine lv_aload_n hx hb dX16_house_27 rfl (lv_at hl 0 rfl) ?_
  refine lv_iload_n hx hb dX16_house_28 rfl (lv_at hl 1 rfl) ?_
  have hPc := hP.sub (ws' := [(h0, .inr (23, [.int 0, .ref h1, .int 20, .int 60, .ref (g 34), v1, .int 0, .int 0, .int 0])), (h1, .inr (6, [.int 0, v2, .int 0]))]) [1, 0] rfl
  have hDc := hD.sub (ws' := [(h0, .inr (23, [.int 0, .ref h1, .int 20, .int 60, .ref (g 34), v1, .int 0, .int 0, .int 0])), (h1, .inr (6, [.int 0, v2, .int 0]))]) [1, 0] (by decide) rfl
  have hKc := hK.sub (tys' := []) [] rfl
  have hFc := va_free (wc := [(h0, .inr (23, [.int 0, .ref h1, .int 20, .int 60, .ref (g 34), v1, .int 0, .int 0, .int 0])), (h1, .inr (6, [.int 0, v2, .int 0]))]) hD hS hA [1, 0] rfl
  refine va_calli (va_runV (As := [.int 4]) (rest := []) ⟨hx, hb, hml, hown, hts⟩ (kX16_houseTold_5 l dC dI g H.size h0 h1 (.int 0) v1 v2 ) (cwV 1 hts gX16_house_X16_houseTold rfl rfl rfl (by decide +kernel) ⟨Nat.le_of_ble_eq_true rfl, Nat.le_of_ble_eq_true rfl⟩) ⟨fun a U gg mk q => by obtain ⟨q0, q1, qP, qK, qD, qF⟩ := q; exact ⟨q0, q1, qP, va_K.moved (u := U) (U := U.calling gg mk a) (Vm.Alike.refl U.vm) qK, qD, ns_same qF⟩, va_recv hK hP (ci := 23) (q0 := 1) rfl rfl, fun U hU hW => ⟨rfl, by rw [hU], by rw [hU]; exact hPc, va_K.moved hW.alike hKc, hDc.weaken (fun _ _ _ _ => trivial), ns_call hF hS hFc hU hW⟩⟩ rfl rfl hl.1 rfl (lv_room (Nat.le_of_ble_eq_true rfl)) dX16_house_29 ⟨Nat.le_of_ble_eq_true rfl, Nat.le_of_ble_eq_true rfl⟩) hS (fun q _ h => hFc q h) hFc (fun r9 u t H1 locs ht hvm hw hB hz1 hk1 hS => ?_)
  obtain rfl := hw
  obtain ⟨q3, q4, cy5, hP1, hK1, hD1⟩ := hB
  rw [ht] at hP1
  have hK1 := va_K.moved hvm.symm hK1
  obtain ⟨hP, hD⟩ := va_join (wr := []) (w1 := [(h0, .inr (23, [.int 0, .ref h1, .int 20, .int 60, .ref (g 34), v1, .int 0, .int 0, .int 0])), (q3, .inr (5, [.int 0, .int (-1), .int 0, .ref h1])), (q4, .inl (cy5, 8, .inl (upd (upd (upd (upd (upd (upd (upd (upd (fun _ => 0) 0 0) 1 20) 2 60) 3 0) 4 0) 5 0) 6 0) 7 0))), (h1, .inr (6, [.int 0, v2, .int 0]))]) hP hD [1, 0] [] rfl rfl (by decide) (by decide) hk1 hFc hP1 hD1
  have hK := (hK.sub (tys' := []) [] rfl).app hK1
  generalize H1 = H at hP hS ⊢
  have hP : va_P (dC, dI) vwCl [(h0, .inr (23, [.int 0, .ref h1, .int 20, .int 60, .ref (g 34), v1, .int 0, .int 0, .int 0])), (q3, .inr (5, [.int 0, .int (-1), .int 0, .ref h1])), (q4, .inl (cy5, 8, .inl (upd (upd (upd (upd (upd (upd (upd (upd (fun _ => 0) 0 0) 1 20) 2 60) 3 0) 4 0) 5 0) 6 0) 7 0))), (h1, .inr (6, [.int 0, v2, .int 0]))] H := hP
  have hD : va_D A [(h0, .inr (23, [.int 0, .ref h1, .int 20, .int 60, .ref (g 34), v1, .int 0, .int 0, .int 0])), (q3, .inr (5, [.int 0, .int (-1), .int 0, .ref h1])), (q4, .inl (cy5, 8, .inl (upd (upd (upd (upd (upd (upd (upd (upd (fun _ => 0) 0 0) 1 20) 2 60) 3 0) 4 0) 5 0) 6 0) 7 0))), (h1, .inr (6, [.int 0, v2, .int 0]))] := hD
  have hK : va_K (dC, dI) vwCl [(cy5, .int)] s := hK
  refine W.widen (k := 2) (n := 12) (Nat.le_of_ble_eq_true rfl) (Nat.le_of_ble_eq_true rfl) ?_
  have hP9 := hP.sub (ws' := [(h0, .inr (23, [.int 0, .ref h1, .int 20, .int 60, .ref (g 34), v1, .int 0, .int 0, .int 0])), (q3, .inr (5, [.int 0, .int (-1), .int 0, .ref h1])), (q4, .inl (cy5, 8, .inl (upd (upd (upd (upd (upd (upd (upd (upd (fun _ => 0) 0 0) 1 20) 2 60) 3 0) 4 0) 5 0) 6 0) 7 0))), (h1, .inr (6, [.int 0, v2, .int 0]))]) [0, 1, 2, 3] rfl
  have hD9 := hD.sub (ws' := [(h0, .inr (23, [.int 0, .ref h1, .int 20, .int 60, .ref (g 34), v1, .int 0, .int 0, .int 0])), (q3, .inr (5, [.int 0, .int (-1), .int 0, .ref h1])), (q4, .inl (cy5, 8, .inl (upd (upd (upd (upd (upd (upd (upd (upd (fun _ => 0) 0 0) 1 20) 2 60) 3 0) 4 0) 5 0) 6 0) 7 0))), (h1, .inr (6, [.int 0, v2, .int 0]))]) [0, 1, 2, 3] (by decide) rfl
  have hK9 := hK.sub (tys' := [(cy5, .int)]) [0] rfl
  refine W.widen (k := 2) (n := 12) (Nat.le_of_ble_eq_true rfl) (Nat.le_of_ble_eq_true rfl) ?_
  exact W.iret (v := 0) hx hb hr (fun t ht hW => ⟨⟨_, (), rfl, rfl, q3, q4, cy5, by rw [ht]; exact hP9, va_K.moved hW.alike hK9, hD9⟩, hS.F ht⟩) hS.2.2 dX16_house_32
set_option maxHeartbeats 4000000 in
set_option maxRecDepth 100000 in
theorem kX9_stateOf_6 (l : Launch) (dC : Nat → ClassId) (dI : Nat → Nat → Nat) (g : Nat → Nat) (sz : Nat) (h0 : Nat) (v0 : Value) (v1 : Value) (v2 : Value) (v3 : Value) (v4 : Value) (v5 : Value) (v6 : Value) (v7 : Value) (v8 : Value) (v9 : Value) (v10 : Value) (v11 : Value) (v12 : Value) (v13 : Value) (v14 : Value) : Met l yX9_stateOf wsX9_stateOf ({ frames := 0, cells := 0, slots := 0, locals := 0 }) (va_Pc [.ref h0, .int 5] (fun U => U.heap.size = sz ∧ va_P (dC, dI) vwCl [(h0, .inr (16, [v0, v1, v2, v3, v4, v5, v6, v7, v8, v9, v10, v11, v12, v13, .int 0, v14]))] U.heap ∧ va_K (dC, dI) vwCl [] U ∧ va_D (fun _ => True) [(h0, .inr (16, [v0, v1, v2, v3, v4, v5, v6, v7, v8, v9, v10, v11, v12, v13, .int 0, v14]))] ∧ ns_F g (va_A [(h0, .inr (16, [v0, v1, v2, v3, v4, v5, v6, v7, v8, v9, v10, v11, v12, v13, .int 0, v14]))] sz) U U.heap)) (va_Qi (fun (r : Int32) (_ : Unit) => r = 0) (fun _ t => va_P (dC, dI) vwCl [(h0, .inr (16, [v0, v1, v2, v3, v4, v5, v6, v7, v8, v9, v10, v11, v12, v13, .int 0, v14]))] t.heap ∧ va_K (dC, dI) vwCl [] t ∧ va_D (va_A [(h0, .inr (16, [v0, v1, v2, v3, v4, v5, v6, v7, v8, v9, v10, v11, v12, v13, .int 0, v14]))] sz) [(h0, .inr (16, [v0, v1, v2, v3, v4, v5, v6, v7, v8, v9, v10, v11, v12, v13, .int 0, v14]))]) (va_A [(h0, .inr (16, [v0, v1, v2, v3, v4, v5, v6, v7, v8, v9, v10, v11, v12, v13, .int 0, v14]))] sz)) 0 0 (va_A [(h0, .inr (16, [v0, v1, v2, v3, v4, v5, v6, v7, v8, v9, v10, v11, v12, v13, .int 0, v14]))] sz) := by
  refine Met.ofW (cc := cX9_stateOf) (maxL := 2) (ret := (some .int)) (by decide) rfl ?_
  intro p e s m args below meth c s₁ B hml hv
  obtain ⟨rfl, hsz, hP, hK, hD0, hF⟩ := hv
  have hx := B.exec
  have hb := B.bytes
  have hr := B.returns
  have hts := atoms_spec (ws := wsX9_stateOf) B.pre
  have hown : s.vm.findClass RX9 = some m.cls := findClass_of_methodNamed B.named
  have hlocks := B.notSynchronized
  subst hsz
  have hD := hD0.self (sz := s.heap.size)
  generalize hAe : va_A [(h0, .inr (16, [v0, v1, v2, v3, v4, v5, v6, v7, v8, v9, v10, v11, v12, v13, .int 0, v14]))] s.heap.size = A at hD hF ⊢
  have hA : ∀ q : Nat, s.heap.size ≤ q → A q := fun q h => by rw [← hAe]; exact Or.inr h
  have hS : va_S A s.heap s.heap [] := va_S.rf
  have hP : va_P (dC, dI) vwCl [(h0, .inr (16, [v0, v1, v2, v3, v4, v5, v6, v7, v8, v9, v10, v11, v12, v13, .int 0, v14]))] s.heap := hP
  have hl := lv_entry ([.ref h0, .int 5]) (n := 2) (Nat.le_of_ble_eq_true rfl)
  rw [lg_entry_eq]
  generalize (lg_sl ([.ref h0, .int 5]) ++ List.replicate (2 - (lg_sl ([.ref h0, .int 5])).length) Slot.unset).toArray = ls at hl ⊢
  have hl : lv_has ls 2 [(0, .ref h0), (1, .int 5)] := hl
  refine lv_iload_n hx hb dX9_stateOf_0 rfl (lv_at hl 1 rfl) ?_
  refine lv_tableIn (off := 74) (tgt := 75) hx hb dX9_stateOf_1 (by decide) (by decide) (by decide) (by decide) ?_
  refine lv_aload_n hx hb dX9_stateOf_75 rfl (lv_at hl 0 rfl) ?_
  refine va_get (D := (dC, dI)) (ci := 16) (v := .int 0) (C := RX9) (T := TX9) (N := 16) hx hb hts (by decide +kernel) hown hK hP 0 rfl rfl 14 (by decide) (hts (.fieldLink RX9 94 "Nestprint" "knocks" "I") (by decide +kernel)) (fun _ h9 => h9) rfl dX9_stateOf_76 ?_
  have hP9 := hP.sub (ws' := [(h0, .inr (16, [v0, v1, v2, v3, v4, v5, v6, v7, v8, v9, v10, v11, v12, v13, .int 0, v14]))]) [0] rfl
  have hD9 := hD.sub (ws' := [(h0, .inr (16, [v0, v1, v2, v3, v4, v5, v6, v7, v8, v9, v10, v11, v12, v13, .int 0, v14]))]) [0] (by decide) rfl
  have hK9 := hK.sub (tys' := []) [] rfl
  refine W.widen (k := 0) (n := 0) (Nat.le_of_ble_eq_true rfl) (Nat.le_of_ble_eq_true rfl) ?_
  exact W.iret (v := 0) hx hb hr (fun t ht hW => ⟨⟨_, (), rfl, rfl, by rw [ht]; exact hP9, va_K.moved hW.alike hK9, hD9⟩, hS.F ht⟩) hS.2.2 dX9_stateOf_79
set_option maxHeartbeats 4000000 in
set_option maxRecDepth 100000 in
theorem kX9_house_7 (l : Launch) (dC : Nat → ClassId) (dI : Nat → Nat → Nat) (g : Nat → Nat) (sz : Nat) (h0 : Nat) (v0 : Value) (v1 : Value) (v2 : Value) (v3 : Value) (v4 : Value) (v5 : Value) (v6 : Value) (v7 : Value) (v8 : Value) (v9 : Value) (v10 : Value) (v11 : Value) (v12 : Value) (v13 : Value) (v14 : Value) : Met l yX9_house wsX9_house ({ frames := 1, cells := 0, slots := 0, locals := 21 }) (va_Pc [.ref h0, .int 5] (fun U => U.heap.size = sz ∧ va_P (dC, dI) vwCl [(h0, .inr (16, [v0, v1, v2, v3, v4, v5, v6, v7, v8, v9, v10, v11, v12, v13, .int 0, v14]))] U.heap ∧ va_K (dC, dI) vwCl [] U ∧ va_D (fun _ => True) [(h0, .inr (16, [v0, v1, v2, v3, v4, v5, v6, v7, v8, v9, v10, v11, v12, v13, .int 0, v14]))] ∧ ns_F g (va_A [(h0, .inr (16, [v0, v1, v2, v3, v4, v5, v6, v7, v8, v9, v10, v11, v12, v13, .int 0, v14]))] sz) U U.heap)) (va_Qi (fun (r : Int32) (_ : Unit) => r = 0) (fun _ t => va_P (dC, dI) vwCl [(h0, .inr (16, [v0, v1, v2, v3, v4, v5, v6, v7, v8, v9, v10, v11, v12, v13, .int 0, v14]))] t.heap ∧ va_K (dC, dI) vwCl [] t ∧ va_D (va_A [(h0, .inr (16, [v0, v1, v2, v3, v4, v5, v6, v7, v8, v9, v10, v11, v12, v13, .int 0, v14]))] sz) [(h0, .inr (16, [v0, v1, v2, v3, v4, v5, v6, v7, v8, v9, v10, v11, v12, v13, .int 0, v14]))]) (va_A [(h0, .inr (16, [v0, v1, v2, v3, v4, v5, v6, v7, v8, v9, v10, v11, v12, v13, .int 0, v14]))] sz)) 0 0 (va_A [(h0, .inr (16, [v0, v1, v2, v3, v4, v5, v6, v7, v8, v9, v10, v11, v12, v13, .int 0, v14]))] sz) := by
  refine Met.ofW (cc := cX9_house) (maxL := 2) (ret := (some .int)) (by decide) rfl ?_
  intro p e s m args below meth c s₁ B hml hv
  obtain ⟨rfl, hsz, hP, hK, hD0, hF⟩ := hv
  have hx := B.exec
  have hb := B.bytes
  have hr := B.returns
  have hts := atoms_spec (ws := wsX9_house) B.pre
  have hown : s.vm.findClass RX9 = some m.cls := findClass_of_methodNamed B.named
  have hlocks := B.notSynchronized
  subst hsz
  have hD := hD0.self (sz := s.heap.size)
  generalize hAe : va_A [(h0, .inr (16, [v0, v1, v2, v3, v4, v5, v6, v7, v8, v9, v10, v11, v12, v13, .int 0, v14]))] s.heap.size = A at hD hF ⊢
  have hA : ∀ q : Nat, s.heap.size ≤ q → A q := fun q h => by rw [← hAe]; exact Or.inr h
  have hS : va_S A s.heap s.heap [] := va_S.rf
  have hP : va_P (dC, dI) vwCl [(h0, .inr (16, [v0, v1, v2, v3, v4, v5, v6, v7, v8, v9, v10, v11, v12, v13, .int 0, v14]))] s.heap := hP
  have hl := lv_entry ([.ref h0, .int 5]) (n := 2) (Nat.le_of_ble_eq_true rfl)
  rw [lg_entry_eq]
  generalize (lg_sl ([.ref h0, .int 5]) ++ List.replicate (2 - (lg_sl ([.ref h0, .int 5])).length) Slot.unset).toArray = ls at hl ⊢
  have hl : lv_has ls 2 [(0, .ref h0), (1, .int 5)] := hl
  refine lv_iload_n hx hb dX9_house_0 rfl (lv_at hl 1 rfl) ?_
  refine lv_if_lt (tgt := 10) hx hb dX9_house_1 (by decide) (fun c1 => absurd c1 (by decide)) (fun c1 => ?_)
  refine lv_iload_n hx hb dX9_house_4 rfl (lv_at hl 1 rfl) ?_
  refine lv_bipush (v := 7) hx hb dX9_house_5 (by decide) ?_
  refine lv_icmp_le (tgt := 20) hx hb dX9_house_7 (by decide) (fun c2 => ?_) (fun c2 => absurd (by decide) c2)
  refine lv_aload_n hx hb dX9_house_20 rfl (lv_at hl 0 rfl) ?_
  refine lv_iload_n hx hb dX9_house_21 rfl (lv_at hl 1 rfl) ?_
  have hPc := hP.sub (ws' := [(h0, .inr (16, [v0, v1, v2, v3, v4, v5, v6, v7, v8, v9, v10, v11, v12, v13, .int 0, v14]))]) [0] rfl
  have hDc := hD.sub (ws' := [(h0, .inr (16, [v0, v1, v2, v3, v4, v5, v6, v7, v8, v9, v10, v11, v12, v13, .int 0, v14]))]) [0] (by decide) rfl
  have hKc := hK.sub (tys' := []) [] rfl
  have hFc := va_free (wc := [(h0, .inr (16, [v0, v1, v2, v3, v4, v5, v6, v7, v8, v9, v10, v11, v12, v13, .int 0, v14]))]) hD hS hA [0] rfl
  refine va_calli (va_runV (As := [.int 5]) (rest := []) ⟨hx, hb, hml, hown, hts⟩ (kX9_stateOf_6 l dC dI g s.heap.size h0 v0 v1 v2 v3 v4 v5 v6 v7 v8 v9 v10 v11 v12 v13 v14 ) (cwV 1 hts gX9_house_X9_stateOf rfl rfl rfl (by decide +kernel) ⟨Nat.le_of_ble_eq_true rfl, Nat.le_of_ble_eq_true rfl⟩) ⟨fun a U gg mk q => by obtain ⟨q0, q1, qP, qK, qD, qF⟩ := q; exact ⟨q0, q1, qP, va_K.moved (u := U) (U := U.calling gg mk a) (Vm.Alike.refl U.vm) qK, qD, ns_same qF⟩, va_recv hK hP (ci := 16) (q0 := 0) rfl rfl, fun U hU hW => ⟨rfl, by rw [hU], by rw [hU]; exact hPc, va_K.moved hW.alike hKc, hDc.weaken (fun _ _ _ _ => trivial), ns_call hF hS hFc hU hW⟩⟩ rfl rfl hl.1 rfl (lv_room (Nat.le_of_ble_eq_true rfl)) dX9_house_22 ⟨Nat.le_of_ble_eq_true rfl, Nat.le_of_ble_eq_true rfl⟩) hS (fun q _ h => hFc q h) hFc (fun r9 u t H1 locs ht hvm hw hB hz1 hk1 hS => ?_)
  obtain rfl := hw
  obtain ⟨hP1, hK1, hD1⟩ := hB
  rw [ht] at hP1
  have hK1 := va_K.moved hvm.symm hK1
  obtain ⟨hP, hD⟩ := va_join (wr := []) (w1 := [(h0, .inr (16, [v0, v1, v2, v3, v4, v5, v6, v7, v8, v9, v10, v11, v12, v13, .int 0, v14]))]) hP hD [0] [] rfl rfl (by decide) (by decide) hk1 hFc hP1 hD1
  have hK := (hK.sub (tys' := []) [] rfl).app hK1
  generalize H1 = H at hP hS ⊢
  have hP : va_P (dC, dI) vwCl [(h0, .inr (16, [v0, v1, v2, v3, v4, v5, v6, v7, v8, v9, v10, v11, v12, v13, .int 0, v14]))] H := hP
  have hD : va_D A [(h0, .inr (16, [v0, v1, v2, v3, v4, v5, v6, v7, v8, v9, v10, v11, v12, v13, .int 0, v14]))] := hD
  have hK : va_K (dC, dI) vwCl [] s := hK
  refine W.widen (k := 0) (n := 0) (Nat.le_of_ble_eq_true rfl) (Nat.le_of_ble_eq_true rfl) ?_
  have hP9 := hP.sub (ws' := [(h0, .inr (16, [v0, v1, v2, v3, v4, v5, v6, v7, v8, v9, v10, v11, v12, v13, .int 0, v14]))]) [0] rfl
  have hD9 := hD.sub (ws' := [(h0, .inr (16, [v0, v1, v2, v3, v4, v5, v6, v7, v8, v9, v10, v11, v12, v13, .int 0, v14]))]) [0] (by decide) rfl
  have hK9 := hK.sub (tys' := []) [] rfl
  refine W.widen (k := 0) (n := 0) (Nat.le_of_ble_eq_true rfl) (Nat.le_of_ble_eq_true rfl) ?_
  exact W.iret (v := 0) hx hb hr (fun t ht hW => ⟨⟨_, (), rfl, rfl, by rw [ht]; exact hP9, va_K.moved hW.alike hK9, hD9⟩, hS.F ht⟩) hS.2.2 dX9_house_25
set_option maxHeartbeats 4000000 in
set_option maxRecDepth 100000 in
theorem kL_house_7 (l : Launch) (dC : Nat → ClassId) (dI : Nat → Nat → Nat) (g : Nat → Nat) (sz : Nat) (h0 : Nat) (h1 : Nat) (v0 : Value) (v1 : Value) (v2 : Value) (v3 : Value) (v4 : Value) (v5 : Value) (v6 : Value) (v7 : Value) (v8 : Value) (v9 : Value) (v10 : Value) (v11 : Value) (v12 : Value) (v13 : Value) (v14 : Value) (v15 : Value) (v16 : Value) : Met l yL_house wsL_house ({ frames := 2, cells := 0, slots := 0, locals := 42 }) (va_Pc [.ref h0, .int 5, .ref h1] (fun U => U.heap.size = sz ∧ va_P (dC, dI) vwCl [(h0, .inr (16, [v0, v1, v2, v3, v4, v5, v6, v7, v8, v9, v10, v11, v12, v13, .int 0, v14])), (h1, .inr (17, [v15, v16]))] U.heap ∧ va_K (dC, dI) vwCl [] U ∧ va_D (fun _ => True) [(h0, .inr (16, [v0, v1, v2, v3, v4, v5, v6, v7, v8, v9, v10, v11, v12, v13, .int 0, v14])), (h1, .inr (17, [v15, v16]))] ∧ ns_F g (va_A [(h0, .inr (16, [v0, v1, v2, v3, v4, v5, v6, v7, v8, v9, v10, v11, v12, v13, .int 0, v14])), (h1, .inr (17, [v15, v16]))] sz) U U.heap)) (va_Qi (fun (r : Int32) (_ : Unit) => r = 0) (fun _ t => va_P (dC, dI) vwCl [(h1, .inr (17, [.long 0, v16])), (h0, .inr (16, [v0, v1, v2, v3, v4, v5, v6, v7, v8, v9, v10, v11, v12, v13, .int 0, v14]))] t.heap ∧ va_K (dC, dI) vwCl [] t ∧ va_D (va_A [(h0, .inr (16, [v0, v1, v2, v3, v4, v5, v6, v7, v8, v9, v10, v11, v12, v13, .int 0, v14])), (h1, .inr (17, [v15, v16]))] sz) [(h1, .inr (17, [.long 0, v16])), (h0, .inr (16, [v0, v1, v2, v3, v4, v5, v6, v7, v8, v9, v10, v11, v12, v13, .int 0, v14]))]) (va_A [(h0, .inr (16, [v0, v1, v2, v3, v4, v5, v6, v7, v8, v9, v10, v11, v12, v13, .int 0, v14])), (h1, .inr (17, [v15, v16]))] sz)) 0 0 (va_A [(h0, .inr (16, [v0, v1, v2, v3, v4, v5, v6, v7, v8, v9, v10, v11, v12, v13, .int 0, v14])), (h1, .inr (17, [v15, v16]))] sz) := by
  refine va_MetW (cc := cL_house) (maxL := 4) (ret := (some .int)) (hh := [(0, 10, 13, 19)]) (by decide) rfl ?_
  intro p e s m args below meth c s₁ B hml hv
  obtain ⟨rfl, hsz, hP, hK, hD0, hF⟩ := hv
  have hx := B.exec
  have hb := B.bytes
  have hr := B.returns
  have hts := atoms_spec (ws := wsL_house) B.pre
  have hown : s.vm.findClass RL = some m.cls := findClass_of_methodNamed B.named
  have hlocks := B.notSynchronized
  have htab : c.exceptionTable.toList = [⟨0, 10, 13, 19⟩] := vx_table B (hts _ List.mem_cons_self)
  subst hsz
  have hD := hD0.self (sz := s.heap.size)
  generalize hAe : va_A [(h0, .inr (16, [v0, v1, v2, v3, v4, v5, v6, v7, v8, v9, v10, v11, v12, v13, .int 0, v14])), (h1, .inr (17, [v15, v16]))] s.heap.size = A at hD hF ⊢
  have hA : ∀ q : Nat, s.heap.size ≤ q → A q := fun q h => by rw [← hAe]; exact Or.inr h
  have hS : va_S A s.heap s.heap [] := va_S.rf
  have hP : va_P (dC, dI) vwCl [(h0, .inr (16, [v0, v1, v2, v3, v4, v5, v6, v7, v8, v9, v10, v11, v12, v13, .int 0, v14])), (h1, .inr (17, [v15, v16]))] s.heap := hP
  have hl := lv_entry ([.ref h0, .int 5, .ref h1]) (n := 4) (Nat.le_of_ble_eq_true rfl)
  rw [lg_entry_eq]
  generalize (lg_sl ([.ref h0, .int 5, .ref h1]) ++ List.replicate (4 - (lg_sl ([.ref h0, .int 5, .ref h1])).length) Slot.unset).toArray = ls at hl ⊢
  have hl : lv_has ls 4 [(0, .ref h0), (1, .int 5), (2, .ref h1)] := hl
  refine lv_aload_n hx hb dL_house_0 rfl (lv_at hl 2 rfl) ?_
  refine lv_aload_n hx hb dL_house_1 rfl (lv_at hl 0 rfl) ?_
  refine lv_iload_n hx hb dL_house_2 rfl (lv_at hl 1 rfl) ?_
  have hPc := hP.sub (ws' := [(h0, .inr (16, [v0, v1, v2, v3, v4, v5, v6, v7, v8, v9, v10, v11, v12, v13, .int 0, v14]))]) [0] rfl
  have hDc := hD.sub (ws' := [(h0, .inr (16, [v0, v1, v2, v3, v4, v5, v6, v7, v8, v9, v10, v11, v12, v13, .int 0, v14]))]) [0] (by decide) rfl
  have hKc := hK.sub (tys' := []) [] rfl
  have hFc := va_free (wc := [(h0, .inr (16, [v0, v1, v2, v3, v4, v5, v6, v7, v8, v9, v10, v11, v12, v13, .int 0, v14]))]) hD hS hA [0] rfl
  refine va_calli (va_runV (As := [.int 5]) (rest := [.ref h1]) ⟨hx, hb, hml, hown, hts⟩ (kX9_house_7 l dC dI g s.heap.size h0 v0 v1 v2 v3 v4 v5 v6 v7 v8 v9 v10 v11 v12 v13 v14 ) (cwV 1 hts gL_house_X9_house rfl rfl rfl (by decide +kernel) ⟨Nat.le_of_ble_eq_true rfl, Nat.le_of_ble_eq_true rfl⟩) ⟨fun a U gg mk q => by obtain ⟨q0, q1, qP, qK, qD, qF⟩ := q; exact ⟨q0, q1, qP, va_K.moved (u := U) (U := U.calling gg mk a) (Vm.Alike.refl U.vm) qK, qD, ns_same qF⟩, va_recv hK hP (ci := 16) (q0 := 0) rfl rfl, fun U hU hW => ⟨rfl, by rw [hU], by rw [hU]; exact hPc, va_K.moved hW.alike hKc, hDc.weaken (fun _ _ _ _ => trivial), ns_call hF hS hFc hU hW⟩⟩ rfl rfl hl.1 rfl (lv_room (Nat.le_of_ble_eq_true rfl)) dL_house_3 ⟨Nat.le_of_ble_eq_true rfl, Nat.le_of_ble_eq_true rfl⟩) hS (fun q _ h => hFc q h) hFc (fun r9 u t H1 locs ht hvm hw hB hz1 hk1 hS => ?_)
  obtain rfl := hw
  obtain ⟨hP1, hK1, hD1⟩ := hB
  rw [ht] at hP1
  have hK1 := va_K.moved hvm.symm hK1
  obtain ⟨hP, hD⟩ := va_join (wr := [(h1, .inr (17, [v15, v16]))]) (w1 := [(h0, .inr (16, [v0, v1, v2, v3, v4, v5, v6, v7, v8, v9, v10, v11, v12, v13, .int 0, v14]))]) hP hD [0] [1] rfl rfl (by decide) (by decide) hk1 hFc hP1 hD1
  have hK := (hK.sub (tys' := []) [] rfl).app hK1
  generalize H1 = H at hP hS ⊢
  have hP : va_P (dC, dI) vwCl [(h1, .inr (17, [v15, v16])), (h0, .inr (16, [v0, v1, v2, v3, v4, v5, v6, v7, v8, v9, v10, v11, v12, v13, .int 0, v14]))] H := hP
  have hD : va_D A [(h1, .inr (17, [v15, v16])), (h0, .inr (16, [v0, v1, v2, v3, v4, v5, v6, v7, v8, v9, v10, v11, v12, v13, .int 0, v14]))] := hD
  have hK : va_K (dC, dI) vwCl [] s := hK
  refine W.widen (k := 0) (n := 0) (Nat.le_of_ble_eq_true rfl) (Nat.le_of_ble_eq_true rfl) ?_
  refine lv_i2l (v := 0) hx hb dL_house_6 (by decide) ?_
  refine va_putN (D := (dC, dI)) (ci := 17) (v := .long 0) (ty := .long) (C := RX10) (T := TX10) (N := 2) hx hb hts (by decide +kernel) tyX10 tyX10_ok nmX10 hown hK hP hD hS 0 rfl rfl 0 (by decide) (va_Nw.use rfl (ns_f7 hF)) (fun _ h9 => h9) rfl (by decide +kernel) rfl rfl (Nat.le_of_ble_eq_true rfl) dL_house_7 (fun H locs hP hD hS => ?_)
  have hP : va_P (dC, dI) vwCl [(h1, .inr (17, [.long 0, v16])), (h0, .inr (16, [v0, v1, v2, v3, v4, v5, v6, v7, v8, v9, v10, v11, v12, v13, .int 0, v14]))] H := hP
  have hD : va_D A [(h1, .inr (17, [.long 0, v16])), (h0, .inr (16, [v0, v1, v2, v3, v4, v5, v6, v7, v8, v9, v10, v11, v12, v13, .int 0, v14]))] := hD
  refine lv_goto (tgt := 16) hx hb dL_house_10 (by decide) ?_
  refine lv_iconst (v := 0) hx hb dL_house_16 (by decide) ?_
  have hP9 := hP.sub (ws' := [(h1, .inr (17, [.long 0, v16])), (h0, .inr (16, [v0, v1, v2, v3, v4, v5, v6, v7, v8, v9, v10, v11, v12, v13, .int 0, v14]))]) [0, 1] rfl
  have hD9 := hD.sub (ws' := [(h1, .inr (17, [.long 0, v16])), (h0, .inr (16, [v0, v1, v2, v3, v4, v5, v6, v7, v8, v9, v10, v11, v12, v13, .int 0, v14]))]) [0, 1] (by decide) rfl
  have hK9 := hK.sub (tys' := []) [] rfl
  refine W.widen (k := 0) (n := 0) (Nat.le_of_ble_eq_true rfl) (Nat.le_of_ble_eq_true rfl) ?_
  exact W.iret (v := 0) hx hb hr (fun t ht hW => ⟨⟨_, (), rfl, rfl, by rw [ht]; exact hP9, va_K.moved hW.alike hK9, hD9⟩, hS.F ht⟩) hS.2.2 dL_house_17
set_option maxHeartbeats 4000000 in
set_option maxRecDepth 100000 in
theorem kX16_isIn_21 (l : Launch) (dC : Nat → ClassId) (dI : Nat → Nat → Nat) (g : Nat → Nat) (sz : Nat)  : Met l yX16_isIn wsX16_isIn ({ frames := 0, cells := 0, slots := 0, locals := 0 }) (va_Pc [.int 5, .int 0, .int 7] (fun U => U.heap.size = sz ∧ va_P (dC, dI) vwCl [] U.heap ∧ va_K (dC, dI) vwCl [] U ∧ va_D (fun _ => True) [] ∧ ns_F g (va_A [] sz) U U.heap)) (va_Qi (fun (r : Int32) (_ : Unit) => r = 1) (fun _ t => va_P (dC, dI) vwCl [] t.heap ∧ va_K (dC, dI) vwCl [] t ∧ va_D (va_A [] sz) []) (va_A [] sz)) 0 0 (va_A [] sz) := by
  refine Met.ofW (cc := cX16_isIn) (maxL := 3) (ret := (some .boolean)) (by decide) rfl ?_
  intro p e s m args below meth c s₁ B hml hv
  obtain ⟨rfl, hsz, hP, hK, hD0, hF⟩ := hv
  have hx := B.exec
  have hb := B.bytes
  have hr := B.returns
  have hts := atoms_spec (ws := wsX16_isIn) B.pre
  have hown : s.vm.findClass RX16 = some m.cls := findClass_of_methodNamed B.named
  have hlocks := B.notSynchronized
  subst hsz
  have hD := hD0.self (sz := s.heap.size)
  generalize hAe : va_A [] s.heap.size = A at hD hF ⊢
  have hA : ∀ q : Nat, s.heap.size ≤ q → A q := fun q h => by rw [← hAe]; exact Or.inr h
  have hS : va_S A s.heap s.heap [] := va_S.rf
  have hP : va_P (dC, dI) vwCl [] s.heap := hP
  have hl := lv_entry ([.int 5, .int 0, .int 7]) (n := 3) (Nat.le_of_ble_eq_true rfl)
  rw [lg_entry_eq]
  generalize (lg_sl ([.int 5, .int 0, .int 7]) ++ List.replicate (3 - (lg_sl ([.int 5, .int 0, .int 7])).length) Slot.unset).toArray = ls at hl ⊢
  have hl : lv_has ls 3 [(0, .int 5), (1, .int 0), (2, .int 7)] := hl
  refine lv_iload_n hx hb dX16_isIn_0 rfl (lv_at hl 0 rfl) ?_
  refine lv_iload_n hx hb dX16_isIn_1 rfl (lv_at hl 1 rfl) ?_
  refine lv_icmp_lt (tgt := 14) hx hb dX16_isIn_2 (by decide) (fun c1 => absurd c1 (by decide)) (fun c1 => ?_)
  refine lv_iload_n hx hb dX16_isIn_5 rfl (lv_at hl 0 rfl) ?_
  refine lv_iload_n hx hb dX16_isIn_6 rfl (lv_at hl 2 rfl) ?_
  refine lv_icmp_gt (tgt := 14) hx hb dX16_isIn_7 (by decide) (fun c2 => absurd c2 (by decide)) (fun c2 => ?_)
  refine lv_iconst (v := 1) hx hb dX16_isIn_10 (by decide) ?_
  refine lv_goto (tgt := 15) hx hb dX16_isIn_11 (by decide) ?_
  have hP9 := hP.sub (ws' := []) [] rfl
  have hD9 := hD.sub (ws' := []) [] (by decide) rfl
  have hK9 := hK.sub (tys' := []) [] rfl
  refine W.widen (k := 0) (n := 0) (Nat.le_of_ble_eq_true rfl) (Nat.le_of_ble_eq_true rfl) ?_
  exact W.zret (v := 1) hx hb hr (by decide) (fun t ht hW => ⟨⟨_, (), rfl, rfl, by rw [ht]; exact hP9, va_K.moved hW.alike hK9, hD9⟩, hS.F ht⟩) hS.2.2 dX16_isIn_15
set_option maxHeartbeats 4000000 in
set_option maxRecDepth 100000 in
theorem kX16_houseTold_6 (l : Launch) (dC : Nat → ClassId) (dI : Nat → Nat → Nat) (g : Nat → Nat) (sz : Nat) (h0 : Nat) (h1 : Nat) (v0 : Value) (v1 : Value) (v2 : Value) : Met l yX16_houseTold wsX16_houseTold ({ frames := 3, cells := 2, slots := 12, locals := 53 }) (va_Pc [.ref h0, .int 5] (fun U => U.heap.size = sz ∧ va_P (dC, dI) vwCl [(h0, .inr (23, [v0, .ref h1, .int 20, .int 60, .ref (g 34), v1, .int 0, .int 0, .int 0])), (h1, .inr (6, [.int 0, v2, .int 0]))] U.heap ∧ va_K (dC, dI) vwCl [] U ∧ va_D (fun _ => True) [(h0, .inr (23, [v0, .ref h1, .int 20, .int 60, .ref (g 34), v1, .int 0, .int 0, .int 0])), (h1, .inr (6, [.int 0, v2, .int 0]))] ∧ ns_F g (va_A [(h0, .inr (23, [v0, .ref h1, .int 20, .int 60, .ref (g 34), v1, .int 0, .int 0, .int 0])), (h1, .inr (6, [.int 0, v2, .int 0]))] sz) U U.heap)) (va_Qi (fun (r : Int32) (_ : Unit) => r = 0) (fun _ t => ∃ k0 : Nat, ∃ k1 : Nat, ∃ kc2 : ClassId, va_P (dC, dI) vwCl [(h0, .inr (23, [v0, .ref h1, .int 20, .int 60, .ref (g 34), v1, .int 0, .int 0, .int 0])), (k0, .inr (5, [.int 0, .int (-1), .int 0, .ref h1])), (k1, .inl (kc2, 8, .inl (upd (upd (upd (upd (upd (upd (upd (upd (fun _ => 0) 0 0) 1 20) 2 60) 3 0) 4 0) 5 0) 6 0) 7 0))), (h1, .inr (6, [.int 0, v2, .int 0]))] t.heap ∧ va_K (dC, dI) vwCl [(kc2, .int)] t ∧ va_D (va_A [(h0, .inr (23, [v0, .ref h1, .int 20, .int 60, .ref (g 34), v1, .int 0, .int 0, .int 0])), (h1, .inr (6, [.int 0, v2, .int 0]))] sz) [(h0, .inr (23, [v0, .ref h1, .int 20, .int 60, .ref (g 34), v1, .int 0, .int 0, .int 0])), (k0, .inr (5, [.int 0, .int (-1), .int 0, .ref h1])), (k1, .inl (kc2, 8, .inl (upd (upd (upd (upd (upd (upd (upd (upd (fun _ => 0) 0 0) 1 20) 2 60) 3 0) 4 0) 5 0) 6 0) 7 0))), (h1, .inr (6, [.int 0, v2, .int 0]))]) (va_A [(h0, .inr (23, [v0, .ref h1, .int 20, .int 60, .ref (g 34), v1, .int 0, .int 0, .int 0])), (h1, .inr (6, [.int 0, v2, .int 0]))] sz)) 2 12 (va_A [(h0, .inr (23, [v0, .ref h1, .int 20, .int 60, .ref (g 34), v1, .int 0, .int 0, .int 0])), (h1, .inr (6, [.int 0, v2, .int 0]))] sz) := by
  refine Met.ofW (cc := cX16_houseTold) (maxL := 5) (ret := (some .int)) (by decide) rfl ?_
  intro p e s m args below meth c s₁ B hml hv
  obtain ⟨rfl, hsz, hP, hK, hD0, hF⟩ := hv
  have hx := B.exec
  have hb := B.bytes
  have hr := B.returns
  have hts := atoms_spec (ws := wsX16_houseTold) B.pre
  have hown : s.vm.findClass RX16 = some m.cls := findClass_of_methodNamed B.named
  have hlocks := B.notSynchronized
  subst hsz
  have hD := hD0.self (sz := s.heap.size)
  generalize hAe : va_A [(h0, .inr (23, [v0, .ref h1, .int 20, .int 60, .ref (g 34), v1, .int 0, .int 0, .int 0])), (h1, .inr (6, [.int 0, v2, .int 0]))] s.heap.size = A at hD hF ⊢
  have hA : ∀ q : Nat, s.heap.size ≤ q → A q := fun q h => by rw [← hAe]; exact Or.inr h
  have hS : va_S A s.heap s.heap [] := va_S.rf
  have hP : va_P (dC, dI) vwCl [(h0, .inr (23, [v0, .ref h1, .int 20, .int 60, .ref (g 34), v1, .int 0, .int 0, .int 0])), (h1, .inr (6, [.int 0, v2, .int 0]))] s.heap := hP
  have hl := lv_entry ([.ref h0, .int 5]) (n := 5) (Nat.le_of_ble_eq_true rfl)
  rw [lg_entry_eq]
  generalize (lg_sl ([.ref h0, .int 5]) ++ List.replicate (5 - (lg_sl ([.ref h0, .int 5])).length) Slot.unset).toArray = ls at hl ⊢
  have hl : lv_has ls 5 [(0, .ref h0), (1, .int 5)] := hl
  refine lv_iconst (v := 0) hx hb dX16_houseTold_0 (by decide) ?_
  refine lv_istore_n (lv' := [(2, .int 0), (0, .ref h0), (1, .int 5)]) hx hb dX16_houseTold_1 rfl hl (by decide) rfl (fun ls hl => ?_)
  refine lv_aload_n hx hb dX16_houseTold_2 rfl (lv_at hl 1 rfl) ?_
  refine va_get (D := (dC, dI)) (ci := 23) (v := .ref h1) (C := RX16) (T := TX16) (N := 9) hx hb hts (by decide +kernel) hown hK hP 0 rfl rfl 1 (by decide) (hts (.fieldLink RX16 10 "NestprintModel" "nodes" "Ljava/util/ArrayList;") (by decide +kernel)) (fun _ h9 => h9) rfl dX16_houseTold_3 ?_
  have hPc := hP.sub (ws' := [(h1, .inr (6, [.int 0, v2, .int 0]))]) [1] rfl
  have hDc := hD.sub (ws' := [(h1, .inr (6, [.int 0, v2, .int 0]))]) [1] (by decide) rfl
  have hKc := hK.sub (tys' := []) [] rfl
  have hFc := va_free (wc := [(h1, .inr (6, [.int 0, v2, .int 0]))]) hD hS hA [1] rfl
  refine va_callr (va_runV (As := []) (rest := []) ⟨hx, hb, hml, hown, hts⟩ (kJx4a65c_iterator_32c93 l dC dI g s.heap.size h1 v2 (.int 0) ) (cwV 0 hts gX16_houseTold_Jx4a65c_iterator_32c93 rfl rfl rfl (by decide +kernel) ⟨Nat.le_of_ble_eq_true rfl, Nat.le_of_ble_eq_true rfl⟩) ⟨fun a U gg mk q => by obtain ⟨q0, q1, qP, qK, qD, qF⟩ := q; exact ⟨q0, q1, qP, va_K.moved (u := U) (U := U.calling gg mk a) (Vm.Alike.refl U.vm) qK, qD, ns_same qF⟩, va_recv hK hP (ci := 6) (q0 := 1) rfl rfl, fun U hU hW => ⟨rfl, by rw [hU], by rw [hU]; exact hPc, va_K.moved hW.alike hKc, hDc.weaken (fun _ _ _ _ => trivial), ns_call hF hS hFc hU hW⟩⟩ rfl rfl hl.1 rfl (lv_room (Nat.le_of_ble_eq_true rfl)) dX16_houseTold_6 ⟨Nat.le_of_ble_eq_true rfl, Nat.le_of_ble_eq_true rfl⟩) hS (fun q _ h => hFc q h) hFc (fun u r9 t H1 locs ht hvm hw hB hz1 hk1 hS => ?_)
  obtain ⟨q1, rfl, hP1, hK1, hD1⟩ := hB
  rw [ht] at hP1
  have hK1 := va_K.moved hvm.symm hK1
  obtain ⟨hP, hD⟩ := va_join (wr := [(h0, .inr (23, [v0, .ref h1, .int 20, .int 60, .ref (g 34), v1, .int 0, .int 0, .int 0]))]) (w1 := [(q1, .inr (5, [.int 0, .int (-1), .int 0, .ref h1])), (h1, .inr (6, [.int 0, v2, .int 0]))]) hP hD [1] [0] rfl rfl (by decide) (by decide) hk1 hFc hP1 hD1
  have hK := (hK.sub (tys' := []) [] rfl).app hK1
  generalize H1 = H at hP hS ⊢
  have hP : va_P (dC, dI) vwCl [(h0, .inr (23, [v0, .ref h1, .int 20, .int 60, .ref (g 34), v1, .int 0, .int 0, .int 0])), (q1, .inr (5, [.int 0, .int (-1), .int 0, .ref h1])), (h1, .inr (6, [.int 0, v2, .int 0]))] H := hP
  have hD : va_D A [(h0, .inr (23, [v0, .ref h1, .int 20, .int 60, .ref (g 34), v1, .int 0, .int 0, .int 0])), (q1, .inr (5, [.int 0, .int (-1), .int 0, .ref h1])), (h1, .inr (6, [.int 0, v2, .int 0]))] := hD
  have hK : va_K (dC, dI) vwCl [] s := hK
  refine W.widen (k := 1) (n := 4) (Nat.le_of_ble_eq_true rfl) (Nat.le_of_ble_eq_true rfl) ?_
  refine lv_astore_n (lv' := [(3, .ref q1), (2, .int 0), (0, .ref h0), (1, .int 5)]) hx hb dX16_houseTold_9 rfl hl (by decide) rfl (fun ls hl => ?_)
  refine lv_aload_n hx hb dX16_houseTold_10 rfl (lv_at hl 0 rfl) ?_
  have hPc := hP.sub (ws' := [(q1, .inr (5, [.int 0, .int (-1), .int 0, .ref h1])), (h1, .inr (6, [.int 0, v2, .int 0]))]) [1, 2] rfl
  have hDc := hD.sub (ws' := [(q1, .inr (5, [.int 0, .int (-1), .int 0, .ref h1])), (h1, .inr (6, [.int 0, v2, .int 0]))]) [1, 2] (by decide) rfl
  have hKc := hK.sub (tys' := []) [] rfl
  have hFc := va_free (wc := [(q1, .inr (5, [.int 0, .int (-1), .int 0, .ref h1])), (h1, .inr (6, [.int 0, v2, .int 0]))]) hD hS hA [1, 2] rfl
  refine va_callFi (va_runF (hK.1 5 _ rfl).2 (As := []) (rest := []) ⟨hx, hb, hml, hown, hts⟩ (kJx35411_hasNext_aae02 l dC dI g H.size q1 h1 (.int (-1)) (.int 0) (.int 0) v2 ) (va_cwF 0 hts gX16_houseTold_Jx35411_hasNext_aae02_f133Jx35411 rfl rfl rfl (ns_f51 hF) (by decide +kernel) ⟨Nat.le_of_ble_eq_true rfl, Nat.le_of_ble_eq_true rfl⟩) ⟨fun a U gg mk q => by obtain ⟨q0, q1, qP, qK, qD, qF⟩ := q; exact ⟨q0, q1, qP, va_K.moved (u := U) (U := U.calling gg mk a) (Vm.Alike.refl U.vm) qK, qD, ns_same qF⟩, va_recv hK hP (ci := 5) (q0 := 1) rfl rfl, fun U hU hW => ⟨rfl, by rw [hU], by rw [hU]; exact hPc, va_K.moved hW.alike hKc, hDc.weaken (fun _ _ _ _ => trivial), ns_call hF hS hFc hU hW⟩⟩ rfl rfl hl.1 rfl (lv_room (Nat.le_of_ble_eq_true rfl)) dX16_houseTold_11 ⟨Nat.le_of_ble_eq_true rfl, Nat.le_of_ble_eq_true rfl⟩) hS (fun q _ h => hFc q h) hFc (fun r9 u t H1 locs ht hvm hw hB hz1 hk1 hS => ?_)
  obtain rfl := hw
  obtain ⟨hP1, hK1, hD1⟩ := hB
  rw [ht] at hP1
  have hK1 := va_K.moved hvm.symm hK1
  obtain ⟨hP, hD⟩ := va_join (wr := [(h0, .inr (23, [v0, .ref h1, .int 20, .int 60, .ref (g 34), v1, .int 0, .int 0, .int 0]))]) (w1 := [(q1, .inr (5, [.int 0, .int (-1), .int 0, .ref h1])), (h1, .inr (6, [.int 0, v2, .int 0]))]) hP hD [1, 2] [0] rfl rfl (by decide) (by decide) hk1 hFc hP1 hD1
  have hK := (hK.sub (tys' := []) [] rfl).app hK1
  generalize H1 = H at hP hS ⊢
  have hP : va_P (dC, dI) vwCl [(h0, .inr (23, [v0, .ref h1, .int 20, .int 60, .ref (g 34), v1, .int 0, .int 0, .int 0])), (q1, .inr (5, [.int 0, .int (-1), .int 0, .ref h1])), (h1, .inr (6, [.int 0, v2, .int 0]))] H := hP
  have hD : va_D A [(h0, .inr (23, [v0, .ref h1, .int 20, .int 60, .ref (g 34), v1, .int 0, .int 0, .int 0])), (q1, .inr (5, [.int 0, .int (-1), .int 0, .ref h1])), (h1, .inr (6, [.int 0, v2, .int 0]))] := hD
  have hK : va_K (dC, dI) vwCl [] s := hK
  refine W.widen (k := 1) (n := 4) (Nat.le_of_ble_eq_true rfl) (Nat.le_of_ble_eq_true rfl) ?_
  refine lv_if_eq (tgt := 41) hx hb dX16_houseTold_16 (by decide) (fun c2 => ?_) (fun c2 => absurd (by decide) c2)
  refine lv_bipush (v := 8) hx hb dX16_houseTold_41 (by decide) ?_
  refine va_newa (atype := .int) hx hb (hts (.arrayClass .int) (by decide +kernel)) rfl hK hP hD hS hA (N' := 8) (a0 := (8, .inl (fun _ => 0))) (fun _ => rfl) (by decide) (by decide) (Nat.le_of_ble_eq_true rfl) (Nat.le_of_ble_eq_true rfl) (Nat.le_of_ble_eq_true rfl) dX16_houseTold_43 (fun q3 cyq3 H hK hP hD hS => ?_)
  have hP : va_P (dC, dI) vwCl [(h0, .inr (23, [v0, .ref h1, .int 20, .int 60, .ref (g 34), v1, .int 0, .int 0, .int 0])), (q1, .inr (5, [.int 0, .int (-1), .int 0, .ref h1])), (h1, .inr (6, [.int 0, v2, .int 0])), (q3, .inl (cyq3, 8, .inl (fun _ => 0)))] H := hP
  have hD : va_D A [(h0, .inr (23, [v0, .ref h1, .int 20, .int 60, .ref (g 34), v1, .int 0, .int 0, .int 0])), (q1, .inr (5, [.int 0, .int (-1), .int 0, .ref h1])), (h1, .inr (6, [.int 0, v2, .int 0])), (q3, .inl (cyq3, 8, .inl (fun _ => 0)))] := hD
  have hK : va_K (dC, dI) vwCl [(cyq3, .int)] s := hK
  refine W.widen (k := 2) (n := 12) (Nat.le_of_ble_eq_true rfl) (Nat.le_of_ble_eq_true rfl) ?_
  refine lv_dup hx hb dX16_houseTold_45 rfl ?_
  refine lv_iconst (v := 0) hx hb dX16_houseTold_46 (by decide) ?_
  refine lv_aload_n hx hb dX16_houseTold_47 rfl (lv_at hl 2 rfl) ?_
  refine va_get (D := (dC, dI)) (ci := 23) (v := .ref h1) (C := RX16) (T := TX16) (N := 9) hx hb hts (by decide +kernel) hown hK hP 0 rfl rfl 1 (by decide) (hts (.fieldLink RX16 10 "NestprintModel" "nodes" "Ljava/util/ArrayList;") (by decide +kernel)) (fun _ h9 => h9) rfl dX16_houseTold_48 ?_
  have hPc := hP.sub (ws' := [(h1, .inr (6, [.int 0, v2, .int 0]))]) [2] rfl
  have hDc := hD.sub (ws' := [(h1, .inr (6, [.int 0, v2, .int 0]))]) [2] (by decide) rfl
  have hKc := hK.sub (tys' := []) [] rfl
  have hFc := va_free (wc := [(h1, .inr (6, [.int 0, v2, .int 0]))]) hD hS hA [2] rfl
  refine va_calli (va_runV (As := []) (rest := [.int 0, .ref q3, .ref q3]) ⟨hx, hb, hml, hown, hts⟩ (kJx4a65c_size_8abf5 l dC dI g H.size h1 (.int 0) v2 ) (cwV 0 hts gX16_houseTold_Jx4a65c_size_8abf5 rfl rfl rfl (by decide +kernel) ⟨Nat.le_of_ble_eq_true rfl, Nat.le_of_ble_eq_true rfl⟩) ⟨fun a U gg mk q => by obtain ⟨q0, q1, qP, qK, qD, qF⟩ := q; exact ⟨q0, q1, qP, va_K.moved (u := U) (U := U.calling gg mk a) (Vm.Alike.refl U.vm) qK, qD, ns_same qF⟩, va_recv hK hP (ci := 6) (q0 := 2) rfl rfl, fun U hU hW => ⟨rfl, by rw [hU], by rw [hU]; exact hPc, va_K.moved hW.alike hKc, hDc.weaken (fun _ _ _ _ => trivial), ns_call hF hS hFc hU hW⟩⟩ rfl rfl hl.1 rfl (lv_room (Nat.le_of_ble_eq_true rfl)) dX16_houseTold_51 ⟨Nat.le_of_ble_eq_true rfl, Nat.le_of_ble_eq_true rfl⟩) hS (fun q _ h => hFc q h) hFc (fun r9 u t H1 locs ht hvm hw hB hz1 hk1 hS => ?_)
  obtain rfl := hw
  obtain ⟨hP1, hK1, hD1⟩ := hB
  rw [ht] at hP1
  have hK1 := va_K.moved hvm.symm hK1
  obtain ⟨hP, hD⟩ := va_join (wr := [(h0, .inr (23, [v0, .ref h1, .int 20, .int 60, .ref (g 34), v1, .int 0, .int 0, .int 0])), (q1, .inr (5, [.int 0, .int (-1), .int 0, .ref h1])), (q3, .inl (cyq3, 8, .inl (fun _ => 0)))]) (w1 := [(h1, .inr (6, [.int 0, v2, .int 0]))]) hP hD [2] [0, 1, 3] rfl rfl (by decide) (by decide) hk1 hFc hP1 hD1
  have hK := (hK.sub (tys' := [(cyq3, .int)]) [0] rfl).app hK1
  generalize H1 = H at hP hS ⊢
  have hP : va_P (dC, dI) vwCl [(h0, .inr (23, [v0, .ref h1, .int 20, .int 60, .ref (g 34), v1, .int 0, .int 0, .int 0])), (q1, .inr (5, [.int 0, .int (-1), .int 0, .ref h1])), (q3, .inl (cyq3, 8, .inl (fun _ => 0))), (h1, .inr (6, [.int 0, v2, .int 0]))] H := hP
  have hD : va_D A [(h0, .inr (23, [v0, .ref h1, .int 20, .int 60, .ref (g 34), v1, .int 0, .int 0, .int 0])), (q1, .inr (5, [.int 0, .int (-1), .int 0, .ref h1])), (q3, .inl (cyq3, 8, .inl (fun _ => 0))), (h1, .inr (6, [.int 0, v2, .int 0]))] := hD
  have hK : va_K (dC, dI) vwCl [(cyq3, .int)] s := hK
  refine W.widen (k := 2) (n := 12) (Nat.le_of_ble_eq_true rfl) (Nat.le_of_ble_eq_true rfl) ?_
  refine va_iast hx hb hK hP hD hS 2 0 rfl rfl (vp_in_nI (n := 0) (by decide) (by decide)) dX16_houseTold_54 (fun H locs hP hD hS => ?_)
  have hP : va_P (dC, dI) vwCl [(h0, .inr (23, [v0, .ref h1, .int 20, .int 60, .ref (g 34), v1, .int 0, .int 0, .int 0])), (q1, .inr (5, [.int 0, .int (-1), .int 0, .ref h1])), (q3, .inl (cyq3, 8, .inl (upd (fun _ => 0) 0 0))), (h1, .inr (6, [.int 0, v2, .int 0]))] H := hP
  have hD : va_D A [(h0, .inr (23, [v0, .ref h1, .int 20, .int 60, .ref (g 34), v1, .int 0, .int 0, .int 0])), (q1, .inr (5, [.int 0, .int (-1), .int 0, .ref h1])), (q3, .inl (cyq3, 8, .inl (upd (fun _ => 0) 0 0))), (h1, .inr (6, [.int 0, v2, .int 0]))] := hD
  refine lv_dup hx hb dX16_houseTold_55 rfl ?_
  refine lv_iconst (v := 1) hx hb dX16_houseTold_56 (by decide) ?_
  refine lv_aload_n hx hb dX16_houseTold_57 rfl (lv_at hl 2 rfl) ?_
  refine va_get (D := (dC, dI)) (ci := 23) (v := .int 20) (C := RX16) (T := TX16) (N := 9) hx hb hts (by decide +kernel) hown hK hP 0 rfl rfl 2 (by decide) (hts (.fieldLink RX16 16 "NestprintModel" "width" "I") (by decide +kernel)) (fun _ h9 => h9) rfl dX16_houseTold_58 ?_
  refine va_iast hx hb hK hP hD hS 2 0 rfl rfl (vp_in_nI (n := 1) (by decide) (by decide)) dX16_houseTold_61 (fun H locs hP hD hS => ?_)
  have hP : va_P (dC, dI) vwCl [(h0, .inr (23, [v0, .ref h1, .int 20, .int 60, .ref (g 34), v1, .int 0, .int 0, .int 0])), (q1, .inr (5, [.int 0, .int (-1), .int 0, .ref h1])), (q3, .inl (cyq3, 8, .inl (upd (upd (fun _ => 0) 0 0) 1 20))), (h1, .inr (6, [.int 0, v2, .int 0]))] H := hP
  have hD : va_D A [(h0, .inr (23, [v0, .ref h1, .int 20, .int 60, .ref (g 34), v1, .int 0, .int 0, .int 0])), (q1, .inr (5, [.int 0, .int (-1), .int 0, .ref h1])), (q3, .inl (cyq3, 8, .inl (upd (upd (fun _ => 0) 0 0) 1 20))), (h1, .inr (6, [.int 0, v2, .int 0]))] := hD
  refine lv_dup hx hb dX16_houseTold_62 rfl ?_
  refine lv_iconst (v := 2) hx hb dX16_houseTold_63 (by decide) ?_
  refine lv_aload_n hx hb dX16_houseTold_64 rfl (lv_at hl 2 rfl) ?_
  refine va_get (D := (dC, dI)) (ci := 23) (v := .int 60) (C := RX16) (T := TX16) (N := 9) hx hb hts (by decide +kernel) hown hK hP 0 rfl rfl 3 (by decide) (hts (.fieldLink RX16 20 "NestprintModel" "ribbon" "I") (by decide +kernel)) (fun _ h9 => h9) rfl dX16_houseTold_65 ?_
  refine va_iast hx hb hK hP hD hS 2 0 rfl rfl (vp_in_nI (n := 2) (by decide) (by decide)) dX16_houseTold_68 (fun H locs hP hD hS => ?_)
  have hP : va_P (dC, dI) vwCl [(h0, .inr (23, [v0, .ref h1, .int 20, .int 60, .ref (g 34), v1, .int 0, .int 0, .int 0])), (q1, .inr (5, [.int 0, .int (-1), .int 0, .ref h1])), (q3, .inl (cyq3, 8, .inl (upd (upd (upd (fun _ => 0) 0 0) 1 20) 2 60))), (h1, .inr (6, [.int 0, v2, .int 0]))] H := hP
  have hD : va_D A [(h0, .inr (23, [v0, .ref h1, .int 20, .int 60, .ref (g 34), v1, .int 0, .int 0, .int 0])), (q1, .inr (5, [.int 0, .int (-1), .int 0, .ref h1])), (q3, .inl (cyq3, 8, .inl (upd (upd (upd (fun _ => 0) 0 0) 1 20) 2 60))), (h1, .inr (6, [.int 0, v2, .int 0]))] := hD
  refine lv_dup hx hb dX16_houseTold_69 rfl ?_
  refine lv_iconst (v := 3) hx hb dX16_houseTold_70 (by decide) ?_
  refine lv_aload_n hx hb dX16_houseTold_71 rfl (lv_at hl 2 rfl) ?_
  refine va_get (D := (dC, dI)) (ci := 23) (v := .ref (g 34)) (C := RX16) (T := TX16) (N := 9) hx hb hts (by decide +kernel) hown hK hP 0 rfl rfl 4 (by decide) (hts (.fieldLink RX16 25 "NestprintModel" "typed" "Ljava/lang/String;") (by decide +kernel)) (fun _ h9 => h9) rfl dX16_houseTold_72 ?_
  have hPc := hP.sub (ws' := []) [] rfl
  have hDc := hD.sub (ws' := []) [] (by decide) rfl
  have hKc := hK.sub (tys' := []) [] rfl
  have hFc := va_free (wc := []) hD hS hA [] rfl
  refine va_calli (va_runV (As := []) (rest := [.int 3, .ref q3, .ref q3]) ⟨hx, hb, hml, hown, hts⟩ (kJ0_length_8abf5 l dC dI g H.size  ) (cwV 0 hts gX16_houseTold_J0_length_8abf5 rfl rfl rfl (by decide +kernel) ⟨Nat.le_of_ble_eq_true rfl, Nat.le_of_ble_eq_true rfl⟩) ⟨fun a U gg mk q => by obtain ⟨q0, q1, qP, qK, qD, qF⟩ := q; exact ⟨q0, q1, qP, va_K.moved (u := U) (U := U.calling gg mk a) (Vm.Alike.refl U.vm) qK, qD, ns_same qF⟩, va_Orecv (ns_f37 hF) hS, fun U hU hW => ⟨rfl, by rw [hU], by rw [hU]; exact hPc, va_K.moved hW.alike hKc, hDc.weaken (fun _ _ _ _ => trivial), ns_call hF hS hFc hU hW⟩⟩ rfl rfl hl.1 rfl (lv_room (Nat.le_of_ble_eq_true rfl)) dX16_houseTold_75 ⟨Nat.le_of_ble_eq_true rfl, Nat.le_of_ble_eq_true rfl⟩) hS (fun q _ h => hFc q h) hFc (fun r9 u t H1 locs ht hvm hw hB hz1 hk1 hS => ?_)
  obtain rfl := hw
  obtain ⟨hP1, hK1, hD1⟩ := hB
  rw [ht] at hP1
  have hK1 := va_K.moved hvm.symm hK1
  obtain ⟨hP, hD⟩ := va_join (wr := [(h0, .inr (23, [v0, .ref h1, .int 20, .int 60, .ref (g 34), v1, .int 0, .int 0, .int 0])), (q1, .inr (5, [.int 0, .int (-1), .int 0, .ref h1])), (q3, .inl (cyq3, 8, .inl (upd (upd (upd (fun _ => 0) 0 0) 1 20) 2 60))), (h1, .inr (6, [.int 0, v2, .int 0]))]) (w1 := []) hP hD [] [0, 1, 2, 3] rfl rfl (by decide) (by decide) hk1 hFc hP1 hD1
  have hK := (hK.sub (tys' := [(cyq3, .int)]) [0] rfl).app hK1
  generalize H1 = H at hP hS ⊢
  have hP : va_P (dC, dI) vwCl [(h0, .inr (23, [v0, .ref h1, .int 20, .int 60, .ref (g 34), v1, .int 0, .int 0, .int 0])), (q1, .inr (5, [.int 0, .int (-1), .int 0, .ref h1])), (q3, .inl (cyq3, 8, .inl (upd (upd (upd (fun _ => 0) 0 0) 1 20) 2 60))), (h1, .inr (6, [.int 0, v2, .int 0]))] H := hP
  have hD : va_D A [(h0, .inr (23, [v0, .ref h1, .int 20, .int 60, .ref (g 34), v1, .int 0, .int 0, .int 0])), (q1, .inr (5, [.int 0, .int (-1), .int 0, .ref h1])), (q3, .inl (cyq3, 8, .inl (upd (upd (upd (fun _ => 0) 0 0) 1 20) 2 60))), (h1, .inr (6, [.int 0, v2, .int 0]))] := hD
  have hK : va_K (dC, dI) vwCl [(cyq3, .int)] s := hK
  refine W.widen (k := 2) (n := 12) (Nat.le_of_ble_eq_true rfl) (Nat.le_of_ble_eq_true rfl) ?_
  refine va_iast hx hb hK hP hD hS 2 0 rfl rfl (vp_in_nI (n := 3) (by decide) (by decide)) dX16_houseTold_78 (fun H locs hP hD hS => ?_)
  have hP : va_P (dC, dI) vwCl [(h0, .inr (23, [v0, .ref h1, .int 20, .int 60, .ref (g 34), v1, .int 0, .int 0, .int 0])), (q1, .inr (5, [.int 0, .int (-1), .int 0, .ref h1])), (q3, .inl (cyq3, 8, .inl (upd (upd (upd (upd (fun _ => 0) 0 0) 1 20) 2 60) 3 0))), (h1, .inr (6, [.int 0, v2, .int 0]))] H := hP
  have hD : va_D A [(h0, .inr (23, [v0, .ref h1, .int 20, .int 60, .ref (g 34), v1, .int 0, .int 0, .int 0])), (q1, .inr (5, [.int 0, .int (-1), .int 0, .ref h1])), (q3, .inl (cyq3, 8, .inl (upd (upd (upd (upd (fun _ => 0) 0 0) 1 20) 2 60) 3 0))), (h1, .inr (6, [.int 0, v2, .int 0]))] := hD
  refine lv_dup hx hb dX16_houseTold_79 rfl ?_
  refine lv_iconst (v := 4) hx hb dX16_houseTold_80 (by decide) ?_
  refine lv_aload_n hx hb dX16_houseTold_81 rfl (lv_at hl 2 rfl) ?_
  refine va_get (D := (dC, dI)) (ci := 23) (v := .int 0) (C := RX16) (T := TX16) (N := 9) hx hb hts (by decide +kernel) hown hK hP 0 rfl rfl 6 (by decide) (hts (.fieldLink RX16 272 "NestprintModel" "counted" "I") (by decide +kernel)) (fun _ h9 => h9) rfl dX16_houseTold_82 ?_
  refine va_iast hx hb hK hP hD hS 2 0 rfl rfl (vp_in_nI (n := 4) (by decide) (by decide)) dX16_houseTold_85 (fun H locs hP hD hS => ?_)
  have hP : va_P (dC, dI) vwCl [(h0, .inr (23, [v0, .ref h1, .int 20, .int 60, .ref (g 34), v1, .int 0, .int 0, .int 0])), (q1, .inr (5, [.int 0, .int (-1), .int 0, .ref h1])), (q3, .inl (cyq3, 8, .inl (upd (upd (upd (upd (upd (fun _ => 0) 0 0) 1 20) 2 60) 3 0) 4 0))), (h1, .inr (6, [.int 0, v2, .int 0]))] H := hP
  have hD : va_D A [(h0, .inr (23, [v0, .ref h1, .int 20, .int 60, .ref (g 34), v1, .int 0, .int 0, .int 0])), (q1, .inr (5, [.int 0, .int (-1), .int 0, .ref h1])), (q3, .inl (cyq3, 8, .inl (upd (upd (upd (upd (upd (fun _ => 0) 0 0) 1 20) 2 60) 3 0) 4 0))), (h1, .inr (6, [.int 0, v2, .int 0]))] := hD
  refine lv_dup hx hb dX16_houseTold_86 rfl ?_
  refine lv_iconst (v := 5) hx hb dX16_houseTold_87 (by decide) ?_
  refine lv_aload_n hx hb dX16_houseTold_88 rfl (lv_at hl 2 rfl) ?_
  refine va_get (D := (dC, dI)) (ci := 23) (v := .int 0) (C := RX16) (T := TX16) (N := 9) hx hb hts (by decide +kernel) hown hK hP 0 rfl rfl 7 (by decide) (hts (.fieldLink RX16 275 "NestprintModel" "knocks" "I") (by decide +kernel)) (fun _ h9 => h9) rfl dX16_houseTold_89 ?_
  refine va_iast hx hb hK hP hD hS 2 0 rfl rfl (vp_in_nI (n := 5) (by decide) (by decide)) dX16_houseTold_92 (fun H locs hP hD hS => ?_)
  have hP : va_P (dC, dI) vwCl [(h0, .inr (23, [v0, .ref h1, .int 20, .int 60, .ref (g 34), v1, .int 0, .int 0, .int 0])), (q1, .inr (5, [.int 0, .int (-1), .int 0, .ref h1])), (q3, .inl (cyq3, 8, .inl (upd (upd (upd (upd (upd (upd (fun _ => 0) 0 0) 1 20) 2 60) 3 0) 4 0) 5 0))), (h1, .inr (6, [.int 0, v2, .int 0]))] H := hP
  have hD : va_D A [(h0, .inr (23, [v0, .ref h1, .int 20, .int 60, .ref (g 34), v1, .int 0, .int 0, .int 0])), (q1, .inr (5, [.int 0, .int (-1), .int 0, .ref h1])), (q3, .inl (cyq3, 8, .inl (upd (upd (upd (upd (upd (upd (fun _ => 0) 0 0) 1 20) 2 60) 3 0) 4 0) 5 0))), (h1, .inr (6, [.int 0, v2, .int 0]))] := hD
  refine lv_dup hx hb dX16_houseTold_93 rfl ?_
  refine lv_bipush (v := 6) hx hb dX16_houseTold_94 (by decide) ?_
  refine lv_aload_n hx hb dX16_houseTold_96 rfl (lv_at hl 2 rfl) ?_
  refine va_get (D := (dC, dI)) (ci := 23) (v := .int 0) (C := RX16) (T := TX16) (N := 9) hx hb hts (by decide +kernel) hown hK hP 0 rfl rfl 8 (by decide) (hts (.fieldLink RX16 193 "NestprintModel" "ever" "I") (by decide +kernel)) (fun _ h9 => h9) rfl dX16_houseTold_97 ?_
  refine va_iast hx hb hK hP hD hS 2 0 rfl rfl (vp_in_nI (n := 6) (by decide) (by decide)) dX16_houseTold_100 (fun H locs hP hD hS => ?_)
  have hP : va_P (dC, dI) vwCl [(h0, .inr (23, [v0, .ref h1, .int 20, .int 60, .ref (g 34), v1, .int 0, .int 0, .int 0])), (q1, .inr (5, [.int 0, .int (-1), .int 0, .ref h1])), (q3, .inl (cyq3, 8, .inl (upd (upd (upd (upd (upd (upd (upd (fun _ => 0) 0 0) 1 20) 2 60) 3 0) 4 0) 5 0) 6 0))), (h1, .inr (6, [.int 0, v2, .int 0]))] H := hP
  have hD : va_D A [(h0, .inr (23, [v0, .ref h1, .int 20, .int 60, .ref (g 34), v1, .int 0, .int 0, .int 0])), (q1, .inr (5, [.int 0, .int (-1), .int 0, .ref h1])), (q3, .inl (cyq3, 8, .inl (upd (upd (upd (upd (upd (upd (upd (fun _ => 0) 0 0) 1 20) 2 60) 3 0) 4 0) 5 0) 6 0))), (h1, .inr (6, [.int 0, v2, .int 0]))] := hD
  refine lv_dup hx hb dX16_houseTold_101 rfl ?_
  refine lv_bipush (v := 7) hx hb dX16_houseTold_102 (by decide) ?_
  refine lv_iload_n hx hb dX16_houseTold_104 rfl (lv_at hl 1 rfl) ?_
  refine va_iast hx hb hK hP hD hS 2 0 rfl rfl (vp_in_nI (n := 7) (by decide) (by decide)) dX16_houseTold_105 (fun H locs hP hD hS => ?_)
  have hP : va_P (dC, dI) vwCl [(h0, .inr (23, [v0, .ref h1, .int 20, .int 60, .ref (g 34), v1, .int 0, .int 0, .int 0])), (q1, .inr (5, [.int 0, .int (-1), .int 0, .ref h1])), (q3, .inl (cyq3, 8, .inl (upd (upd (upd (upd (upd (upd (upd (upd (fun _ => 0) 0 0) 1 20) 2 60) 3 0) 4 0) 5 0) 6 0) 7 0))), (h1, .inr (6, [.int 0, v2, .int 0]))] H := hP
  have hD : va_D A [(h0, .inr (23, [v0, .ref h1, .int 20, .int 60, .ref (g 34), v1, .int 0, .int 0, .int 0])), (q1, .inr (5, [.int 0, .int (-1), .int 0, .ref h1])), (q3, .inl (cyq3, 8, .inl (upd (upd (upd (upd (upd (upd (upd (upd (fun _ => 0) 0 0) 1 20) 2 60) 3 0) 4 0) 5 0) 6 0) 7 0))), (h1, .inr (6, [.int 0, v2, .int 0]))] := hD
  refine lv_astore_n (lv' := [(3, .ref q3), (2, .int 0), (0, .ref h0), (1, .int 5)]) hx hb dX16_houseTold_106 rfl hl (by decide) rfl (fun ls hl => ?_)
  refine lv_aload_n hx hb dX16_houseTold_107 rfl (lv_at hl 0 rfl) ?_
  refine lv_iload_n hx hb dX16_houseTold_108 rfl (lv_at hl 3 rfl) ?_
  refine va_iald hx hb hK hP 2 0 rfl rfl (vp_in_nI (n := 5) (by decide) (by decide)) dX16_houseTold_109 ?_
  refine lv_topi (fun y4 ey4 => ?_)
  obtain rfl : y4 = 0 := ey4
  have hP9 := hP.sub (ws' := [(h0, .inr (23, [v0, .ref h1, .int 20, .int 60, .ref (g 34), v1, .int 0, .int 0, .int 0])), (q1, .inr (5, [.int 0, .int (-1), .int 0, .ref h1])), (q3, .inl (cyq3, 8, .inl (upd (upd (upd (upd (upd (upd (upd (upd (fun _ => 0) 0 0) 1 20) 2 60) 3 0) 4 0) 5 0) 6 0) 7 0))), (h1, .inr (6, [.int 0, v2, .int 0]))]) [0, 1, 2, 3] rfl
  have hD9 := hD.sub (ws' := [(h0, .inr (23, [v0, .ref h1, .int 20, .int 60, .ref (g 34), v1, .int 0, .int 0, .int 0])), (q1, .inr (5, [.int 0, .int (-1), .int 0, .ref h1])), (q3, .inl (cyq3, 8, .inl (upd (upd (upd (upd (upd (upd (upd (upd (fun _ => 0) 0 0) 1 20) 2 60) 3 0) 4 0) 5 0) 6 0) 7 0))), (h1, .inr (6, [.int 0, v2, .int 0]))]) [0, 1, 2, 3] (by decide) rfl
  have hK9 := hK.sub (tys' := [(cyq3, .int)]) [0] rfl
  refine W.widen (k := 2) (n := 12) (Nat.le_of_ble_eq_true rfl) (Nat.le_of_ble_eq_true rfl) ?_
  exact W.iret (v := 0) hx hb hr (fun t ht hW => ⟨⟨_, (), rfl, rfl, q1, q3, cyq3, by rw [ht]; exact hP9, va_K.moved hW.alike hK9, hD9⟩, hS.F ht⟩) hS.2.2 dX16_houseTold_110
set_option maxHeartbeats 4000000 in
set_option maxRecDepth 100000 in
theorem kX16_house_7 (l : Launch) (dC : Nat → ClassId) (dI : Nat → Nat → Nat) (g : Nat → Nat) (sz : Nat) (h0 : Nat) (h1 : Nat) (v0 : Value) (v1 : Value) (v2 : Value) : Met l yX16_house wsX16_house ({ frames := 4, cells := 2, slots := 12, locals := 77 }) (va_Pc [.ref h0, .int 5] (fun U => U.heap.size = sz ∧ va_P (dC, dI) vwCl [(h0, .inr (23, [v0, .ref h1, .int 20, .int 60, .ref (g 34), v1, .int 0, .int 0, .int 0])), (h1, .inr (6, [.int 0, v2, .int 0]))] U.heap ∧ va_K (dC, dI) vwCl [] U ∧ va_D (fun _ => True) [(h0, .inr (23, [v0, .ref h1, .int 20, .int 60, .ref (g 34), v1, .int 0, .int 0, .int 0])), (h1, .inr (6, [.int 0, v2, .int 0]))] ∧ ns_F g (va_A [(h0, .inr (23, [v0, .ref h1, .int 20, .int 60, .ref (g 34), v1, .int 0, .int 0, .int 0])), (h1, .inr (6, [.int 0, v2, .int 0]))] sz) U U.heap)) (va_Qi (fun (r : Int32) (_ : Unit) => r = 0) (fun _ t => ∃ k0 : Nat, ∃ k1 : Nat, ∃ kc2 : ClassId, va_P (dC, dI) vwCl [(h0, .inr (23, [.int 0, .ref h1, .int 20, .int 60, .ref (g 34), v1, .int 0, .int 0, .int 0])), (k0, .inr (5, [.int 0, .int (-1), .int 0, .ref h1])), (k1, .inl (kc2, 8, .inl (upd (upd (upd (upd (upd (upd (upd (upd (fun _ => 0) 0 0) 1 20) 2 60) 3 0) 4 0) 5 0) 6 0) 7 0))), (h1, .inr (6, [.int 0, v2, .int 0]))] t.heap ∧ va_K (dC, dI) vwCl [(kc2, .int)] t ∧ va_D (va_A [(h0, .inr (23, [v0, .ref h1, .int 20, .int 60, .ref (g 34), v1, .int 0, .int 0, .int 0])), (h1, .inr (6, [.int 0, v2, .int 0]))] sz) [(h0, .inr (23, [.int 0, .ref h1, .int 20, .int 60, .ref (g 34), v1, .int 0, .int 0, .int 0])), (k0, .inr (5, [.int 0, .int (-1), .int 0, .ref h1])), (k1, .inl (kc2, 8, .inl (upd (upd (upd (upd (upd (upd (upd (upd (fun _ => 0) 0 0) 1 20) 2 60) 3 0) 4 0) 5 0) 6 0) 7 0))), (h1, .inr (6, [.int 0, v2, .int 0]))]) (va_A [(h0, .inr (23, [v0, .ref h1, .int 20, .int 60, .ref (g 34), v1, .int 0, .int 0, .int 0])), (h1, .inr (6, [.int 0, v2, .int 0]))] sz)) 2 12 (va_A [(h0, .inr (23, [v0, .ref h1, .int 20, .int 60, .ref (g 34), v1, .int 0, .int 0, .int 0])), (h1, .inr (6, [.int 0, v2, .int 0]))] sz) := by
  refine Met.ofW (cc := cX16_house) (maxL := 2) (ret := (some .int)) (by decide) rfl ?_
  intro p e s m args below meth c s₁ B hml hv
  obtain ⟨rfl, hsz, hP, hK, hD0, hF⟩ := hv
  have hx := B.exec
  have hb := B.bytes
  have hr := B.returns
  have hts := atoms_spec (ws := wsX16_house) B.pre
  have hown : s.vm.findClass RX16 = some m.cls := findClass_of_methodNamed B.named
  have hlocks := B.notSynchronized
  subst hsz
  have hD := hD0.self (sz := s.heap.size)
  generalize hAe : va_A [(h0, .inr (23, [v0, .ref h1, .int 20, .int 60, .ref (g 34), v1, .int 0, .int 0, .int 0])), (h1, .inr (6, [.int 0, v2, .int 0]))] s.heap.size = A at hD hF ⊢
  have hA : ∀ q : Nat, s.heap.size ≤ q → A q := fun q h => by rw [← hAe]; exact Or.inr h
  have hS : va_S A s.heap s.heap [] := va_S.rf
  have hP : va_P (dC, dI) vwCl [(h0, .inr (23, [v0, .ref h1, .int 20, .int 60, .ref (g 34), v1, .int 0, .int 0, .int 0])), (h1, .inr (6, [.int 0, v2, .int 0]))] s.heap := hP
  have hl := lv_entry ([.ref h0, .int 5]) (n := 2) (Nat.le_of_ble_eq_true rfl)
  rw [lg_entry_eq]
  generalize (lg_sl ([.ref h0, .int 5]) ++ List.replicate (2 - (lg_sl ([.ref h0, .int 5])).length) Slot.unset).toArray = ls at hl ⊢
  have hl : lv_has ls 2 [(0, .ref h0), (1, .int 5)] := hl
  refine lv_aload_n hx hb dX16_house_0 rfl (lv_at hl 0 rfl) ?_
  refine lv_iload_n hx hb dX16_house_1 rfl (lv_at hl 1 rfl) ?_
  refine lv_iconst (v := 0) hx hb dX16_house_2 (by decide) ?_
  refine lv_bipush (v := 7) hx hb dX16_house_3 (by decide) ?_
  have hPc := hP.sub (ws' := []) [] rfl
  have hDc := hD.sub (ws' := []) [] (by decide) rfl
  have hKc := hK.sub (tys' := []) [] rfl
  have hFc := va_free (wc := []) hD hS hA [] rfl
  refine va_calli (va_runS (As := [.int 5, .int 0, .int 7]) (rest := [.ref h0]) ⟨hx, hb, hml, hown, hts⟩ (kX16_isIn_21 l dC dI g s.heap.size  ) (va_cwS 3 hts gX16_house_X16_isIn rfl rfl rfl (by decide +kernel) ⟨Nat.le_of_ble_eq_true rfl, Nat.le_of_ble_eq_true rfl⟩) ⟨fun a U gg mk q => by obtain ⟨q0, q1, qP, qK, qD, qF⟩ := q; exact ⟨q0, q1, qP, va_K.moved (u := U) (U := U.calling gg mk a) (Vm.Alike.refl U.vm) qK, qD, ns_same qF⟩, fun U hU hW => ⟨rfl, by rw [hU], by rw [hU]; exact hPc, va_K.moved hW.alike hKc, hDc.weaken (fun _ _ _ _ => trivial), ns_call hF hS hFc hU hW⟩⟩ rfl rfl hl.1 rfl (lv_room (Nat.le_of_ble_eq_true rfl)) dX16_house_5 ⟨Nat.le_of_ble_eq_true rfl, Nat.le_of_ble_eq_true rfl⟩) hS (fun q _ h => hFc q h) hFc (fun r9 u t H1 locs ht hvm hw hB hz1 hk1 hS => ?_)
  obtain rfl := hw
  obtain ⟨hP1, hK1, hD1⟩ := hB
  rw [ht] at hP1
  have hK1 := va_K.moved hvm.symm hK1
  obtain ⟨hP, hD⟩ := va_join (wr := [(h0, .inr (23, [v0, .ref h1, .int 20, .int 60, .ref (g 34), v1, .int 0, .int 0, .int 0])), (h1, .inr (6, [.int 0, v2, .int 0]))]) (w1 := []) hP hD [] [0, 1] rfl rfl (by decide) (by decide) hk1 hFc hP1 hD1
  have hK := (hK.sub (tys' := []) [] rfl).app hK1
  generalize H1 = H at hP hS ⊢
  have hP : va_P (dC, dI) vwCl [(h0, .inr (23, [v0, .ref h1, .int 20, .int 60, .ref (g 34), v1, .int 0, .int 0, .int 0])), (h1, .inr (6, [.int 0, v2, .int 0]))] H := hP
  have hD : va_D A [(h0, .inr (23, [v0, .ref h1, .int 20, .int 60, .ref (g 34), v1, .int 0, .int 0, .int 0])), (h1, .inr (6, [.int 0, v2, .int 0]))] := hD
  have hK : va_K (dC, dI) vwCl [] s := hK
  refine W.widen (k := 0) (n := 0) (Nat.le_of_ble_eq_true rfl) (Nat.le_of_ble_eq_true rfl) ?_
  refine lv_if_ne (tgt := 15) hx hb dX16_house_8 (by decide) (fun c1 => ?_) (fun c1 => absurd c1 (by decide))
  refine lv_iconst (v := 0) hx hb dX16_house_15 (by decide) ?_
  refine lv_iconst (v := 1) hx hb dX16_house_16 (by decide) ?_
  have hPc := hP.sub (ws' := [(h0, .inr (23, [v0, .ref h1, .int 20, .int 60, .ref (g 34), v1, .int 0, .int 0, .int 0]))]) [0] rfl
  have hDc := hD.sub (ws' := [(h0, .inr (23, [v0, .ref h1, .int 20, .int 60, .ref (g 34), v1, .int 0, .int 0, .int 0]))]) [0] (by decide) rfl
  have hKc := hK.sub (tys' := []) [] rfl
  have hFc := va_free (wc := [(h0, .inr (23, [v0, .ref h1, .int 20, .int 60, .ref (g 34), v1, .int 0, .int 0, .int 0]))]) hD hS hA [0] rfl
  refine va_calli (va_runV (As := [.int 0, .int 1]) (rest := []) ⟨hx, hb, hml, hown, hts⟩ (kX16_start_2 l dC dI g H.size h0 v0 (.ref h1) (.int 20) (.int 60) (.ref (g 34)) v1 (.int 0) (.int 0) (.int 0) ) (cwV 2 hts gX16_house_X16_start rfl rfl rfl (by decide +kernel) ⟨Nat.le_of_ble_eq_true rfl, Nat.le_of_ble_eq_true rfl⟩) ⟨fun a U gg mk q => by obtain ⟨q0, q1, qP, qK, qD, qF⟩ := q; exact ⟨q0, q1, qP, va_K.moved (u := U) (U := U.calling gg mk a) (Vm.Alike.refl U.vm) qK, qD, ns_same qF⟩, va_recv hK hP (ci := 23) (q0 := 0) rfl rfl, fun U hU hW => ⟨rfl, by rw [hU], by rw [hU]; exact hPc, va_K.moved hW.alike hKc, hDc.weaken (fun _ _ _ _ => trivial), ns_call hF hS hFc hU hW⟩⟩ rfl rfl hl.1 rfl (lv_room (Nat.le_of_ble_eq_true rfl)) dX16_house_17 ⟨Nat.le_of_ble_eq_true rfl, Nat.le_of_ble_eq_true rfl⟩) hS (fun q _ h => hFc q h) hFc (fun r9 u t H1 locs ht hvm hw hB hz1 hk1 hS => ?_)
  obtain rfl := hw
  obtain ⟨hP1, hK1, hD1⟩ := hB
  rw [ht] at hP1
  have hK1 := va_K.moved hvm.symm hK1
  obtain ⟨hP, hD⟩ := va_join (wr := [(h1, .inr (6, [.int 0, v2, .int 0]))]) (w1 := [(h0, .inr (23, [.int 0, .ref h1, .int 20, .int 60, .ref (g 34), v1, .int 0, .int 0, .int 0]))]) hP hD [0] [1] rfl rfl (by decide) (by decide) hk1 hFc hP1 hD1
  have hK := (hK.sub (tys' := []) [] rfl).app hK1
  generalize H1 = H at hP hS ⊢
  have hP : va_P (dC, dI) vwCl [(h1, .inr (6, [.int 0, v2, .int 0])), (h0, .inr (23, [.int 0, .ref h1, .int 20, .int 60, .ref (g 34), v1, .int 0, .int 0, .int 0]))] H := hP
  have hD : va_D A [(h1, .inr (6, [.int 0, v2, .int 0])), (h0, .inr (23, [.int 0, .ref h1, .int 20, .int 60, .ref (g 34), v1, .int 0, .int 0, .int 0]))] := hD
  have hK : va_K (dC, dI) vwCl [] s := hK
  refine W.widen (k := 0) (n := 0) (Nat.le_of_ble_eq_true rfl) (Nat.le_of_ble_eq_true rfl) ?_
  refine lv_if_eq (tgt := 27) hx hb dX16_house_20 (by decide) (fun c2 => ?_) (fun c2 => absurd (by decide) c2)
  refine lv_aload_n hx hb dX16_house_27 rfl (lv_at hl 0 rfl) ?_
  refine lv_iload_n hx hb dX16_house_28 rfl (lv_at hl 1 rfl) ?_
  have hPc := hP.sub (ws' := [(h0, .inr (23, [.int 0, .ref h1, .int 20, .int 60, .ref (g 34), v1, .int 0, .int 0, .int 0])), (h1, .inr (6, [.int 0, v2, .int 0]))]) [1, 0] rfl
  have hDc := hD.sub (ws' := [(h0, .inr (23, [.int 0, .ref h1, .int 20, .int 60, .ref (g 34), v1, .int 0, .int 0, .int 0])), (h1, .inr (6, [.int 0, v2, .int 0]))]) [1, 0] (by decide) rfl
  have hKc := hK.sub (tys' := []) [] rfl
  have hFc := va_free (wc := [(h0, .inr (23, [.int 0, .ref h1, .int 20, .int 60, .ref (g 34), v1, .int 0, .int 0, .int 0])), (h1, .inr (6, [.int 0, v2, .int 0]))]) hD hS hA [1, 0] rfl
  refine va_calli (va_runV (As := [.int 5]) (rest := []) ⟨hx, hb, hml, hown, hts⟩ (kX16_houseTold_6 l dC dI g H.size h0 h1 (.int 0) v1 v2 ) (cwV 1 hts gX16_house_X16_houseTold rfl rfl rfl (by decide +kernel) ⟨Nat.le_of_ble_eq_true rfl, Nat.le_of_ble_eq_true rfl⟩) ⟨fun a U gg mk q => by obtain ⟨q0, q1, qP, qK, qD, qF⟩ := q; exact ⟨q0, q1, qP, va_K.moved (u := U) (U := U.calling gg mk a) (Vm.Alike.refl U.vm) qK, qD, ns_same qF⟩, va_recv hK hP (ci := 23) (q0 := 1) rfl rfl, fun U hU hW => ⟨rfl, by rw [hU], by rw [hU]; exact hPc, va_K.moved hW.alike hKc, hDc.weaken (fun _ _ _ _ => trivial), ns_call hF hS hFc hU hW⟩⟩ rfl rfl hl.1 rfl (lv_room (Nat.le_of_ble_eq_true rfl)) dX16_house_29 ⟨Nat.le_of_ble_eq_true rfl, Nat.le_of_ble_eq_true rfl⟩) hS (fun q _ h => hFc q h) hFc (fun r9 u t H1 locs ht hvm hw hB hz1 hk1 hS => ?_)
  obtain rfl := hw
  obtain ⟨q3, q4, cy5, hP1, hK1, hD1⟩ := hB
  rw [ht] at hP1
  have hK1 := va_K.moved hvm.symm hK1
  obtain ⟨hP, hD⟩ := va_join (wr := []) (w1 := [(h0, .inr (23, [.int 0, .ref h1, .int 20, .int 60, .ref (g 34), v1, .int 0, .int 0, .int 0])), (q3, .inr (5, [.int 0, .int (-1), .int 0, .ref h1])), (q4, .inl (cy5, 8, .inl (upd (upd (upd (upd (upd (upd (upd (upd (fun _ => 0) 0 0) 1 20) 2 60) 3 0) 4 0) 5 0) 6 0) 7 0))), (h1, .inr (6, [.int 0, v2, .int 0]))]) hP hD [1, 0] [] rfl rfl (by decide) (by decide) hk1 hFc hP1 hD1
  have hK := (hK.sub (tys' := []) [] rfl).app hK1
  generalize H1 = H at hP hS ⊢
  have hP : va_P (dC, dI) vwCl [(h0, .inr (23, [.int 0, .ref h1, .int 20, .int 60, .ref (g 34), v1, .int 0, .int 0, .int 0])), (q3, .inr (5, [.int 0, .int (-1), .int 0, .ref h1])), (q4, .inl (cy5, 8, .inl (upd (upd (upd (upd (upd (upd (upd (upd (fun _ => 0) 0 0) 1 20) 2 60) 3 0) 4 0) 5 0) 6 0) 7 0))), (h1, .inr (6, [.int 0, v2, .int 0]))] H := hP
  have hD : va_D A [(h0, .inr (23, [.int 0, .ref h1, .int 20, .int 60, .ref (g 34), v1, .int 0, .int 0, .int 0])), (q3, .inr (5, [.int 0, .int (-1), .int 0, .ref h1])), (q4, .inl (cy5, 8, .inl (upd (upd (upd (upd (upd (upd (upd (upd (fun _ => 0) 0 0) 1 20) 2 60) 3 0) 4 0) 5 0) 6 0) 7 0))), (h1, .inr (6, [.int 0, v2, .int 0]))] := hD
  have hK : va_K (dC, dI) vwCl [(cy5, .int)] s := hK
  refine W.widen (k := 2) (n := 12) (Nat.le_of_ble_eq_true rfl) (Nat.le_of_ble_eq_true rfl) ?_
  have hP9 := hP.sub (ws' := [(h0, .inr (23, [.int 0, .ref h1, .int 20, .int 60, .ref (g 34), v1, .int 0, .int 0, .int 0])), (q3, .inr (5, [.int 0, .int (-1), .int 0, .ref h1])), (q4, .inl (cy5, 8, .inl (upd (upd (upd (upd (upd (upd (upd (upd (fun _ => 0) 0 0) 1 20) 2 60) 3 0) 4 0) 5 0) 6 0) 7 0))), (h1, .inr (6, [.int 0, v2, .int 0]))]) [0, 1, 2, 3] rfl
  have hD9 := hD.sub (ws' := [(h0, .inr (23, [.int 0, .ref h1, .int 20, .int 60, .ref (g 34), v1, .int 0, .int 0, .int 0])), (q3, .inr (5, [.int 0, .int (-1), .int 0, .ref h1])), (q4, .inl (cy5, 8, .inl (upd (upd (upd (upd (upd (upd (upd (upd (fun _ => 0) 0 0) 1 20) 2 60) 3 0) 4 0) 5 0) 6 0) 7 0))), (h1, .inr (6, [.int 0, v2, .int 0]))]) [0, 1, 2, 3] (by decide) rfl
  have hK9 := hK.sub (tys' := [(cy5, .int)]) [0] rfl
  refine W.widen (k := 2) (n := 12) (Nat.le_of_ble_eq_true rfl) (Nat.le_of_ble_eq_true rfl) ?_
  exact W.iret (v := 0) hx hb hr (fun t ht hW => ⟨⟨_, (), rfl, rfl, q3, q4, cy5, by rw [ht]; exact hP9, va_K.moved hW.alike hK9, hD9⟩, hS.F ht⟩) hS.2.2 dX16_house_32
set_option maxHeartbeats 4000000 in
set_option maxRecDepth 100000 in
theorem kX9_stateOf_7 (l : Launch) (dC : Nat → ClassId) (dI : Nat → Nat → Nat) (g : Nat → Nat) (sz : Nat) (h0 : Nat) (v0 : Value) (v1 : Value) (v2 : Value) (v3 : Value) (v4 : Value) (v5 : Value) (v6 : Value) (v7 : Value) (v8 : Value) (v9 : Value) (v10 : Value) (v11 : Value) (v12 : Value) (v13 : Value) (v14 : Value) : Met l yX9_stateOf wsX9_stateOf ({ frames := 0, cells := 0, slots := 0, locals := 0 }) (va_Pc [.ref h0, .int 6] (fun U => U.heap.size = sz ∧ va_P (dC, dI) vwCl [(h0, .inr (16, [v0, v1, v2, v3, v4, v5, v6, v7, v8, v9, v10, v11, v12, v13, v14, .int 0]))] U.heap ∧ va_K (dC, dI) vwCl [] U ∧ va_D (fun _ => True) [(h0, .inr (16, [v0, v1, v2, v3, v4, v5, v6, v7, v8, v9, v10, v11, v12, v13, v14, .int 0]))] ∧ ns_F g (va_A [(h0, .inr (16, [v0, v1, v2, v3, v4, v5, v6, v7, v8, v9, v10, v11, v12, v13, v14, .int 0]))] sz) U U.heap)) (va_Qi (fun (r : Int32) (_ : Unit) => r = 0) (fun _ t => va_P (dC, dI) vwCl [(h0, .inr (16, [v0, v1, v2, v3, v4, v5, v6, v7, v8, v9, v10, v11, v12, v13, v14, .int 0]))] t.heap ∧ va_K (dC, dI) vwCl [] t ∧ va_D (va_A [(h0, .inr (16, [v0, v1, v2, v3, v4, v5, v6, v7, v8, v9, v10, v11, v12, v13, v14, .int 0]))] sz) [(h0, .inr (16, [v0, v1, v2, v3, v4, v5, v6, v7, v8, v9, v10, v11, v12, v13, v14, .int 0]))]) (va_A [(h0, .inr (16, [v0, v1, v2, v3, v4, v5, v6, v7, v8, v9, v10, v11, v12, v13, v14, .int 0]))] sz)) 0 0 (va_A [(h0, .inr (16, [v0, v1, v2, v3, v4, v5, v6, v7, v8, v9, v10, v11, v12, v13, v14, .int 0]))] sz) := by
  refine Met.ofW (cc := cX9_stateOf) (maxL := 2) (ret := (some .int)) (by decide) rfl ?_
  intro p e s m args below meth c s₁ B hml hv
  obtain ⟨rfl, hsz, hP, hK, hD0, hF⟩ := hv
  have hx := B.exec
  have hb := B.bytes
  have hr := B.returns
  have hts := atoms_spec (ws := wsX9_stateOf) B.pre
  have hown : s.vm.findClass RX9 = some m.cls := findClass_of_methodNamed B.named
  have hlocks := B.notSynchronized
  subst hsz
  have hD := hD0.self (sz := s.heap.size)
  generalize hAe : va_A [(h0, .inr (16, [v0, v1, v2, v3, v4, v5, v6, v7, v8, v9, v10, v11, v12, v13, v14, .int 0]))] s.heap.size = A at hD hF ⊢
  have hA : ∀ q : Nat, s.heap.size ≤ q → A q := fun q h => by rw [← hAe]; exact Or.inr h
  have hS : va_S A s.heap s.heap [] := va_S.rf
  have hP : va_P (dC, dI) vwCl [(h0, .inr (16, [v0, v1, v2, v3, v4, v5, v6, v7, v8, v9, v10, v11, v12, v13, v14, .int 0]))] s.heap := hP
  have hl := lv_entry ([.ref h0, .int 6]) (n := 2) (Nat.le_of_ble_eq_true rfl)
  rw [lg_entry_eq]
  generalize (lg_sl ([.ref h0, .int 6]) ++ List.replicate (2 - (lg_sl ([.ref h0, .int 6])).length) Slot.unset).toArray = ls at hl ⊢
  have hl : lv_has ls 2 [(0, .ref h0), (1, .int 6)] := hl
  refine lv_iload_n hx hb dX9_stateOf_0 rfl (lv_at hl 1 rfl) ?_
  refine lv_tableIn (off := 79) (tgt := 80) hx hb dX9_stateOf_1 (by decide) (by decide) (by decide) (by decide) ?_
  refine lv_aload_n hx hb dX9_stateOf_80 rfl (lv_at hl 0 rfl) ?_
  refine va_get (D := (dC, dI)) (ci := 16) (v := .int 0) (C := RX9) (T := TX9) (N := 16) hx hb hts (by decide +kernel) hown hK hP 0 rfl rfl 15 (by decide) (hts (.fieldLink RX9 97 "Nestprint" "made" "I") (by decide +kernel)) (fun _ h9 => h9) rfl dX9_stateOf_81 ?_
  have hP9 := hP.sub (ws' := [(h0, .inr (16, [v0, v1, v2, v3, v4, v5, v6, v7, v8, v9, v10, v11, v12, v13, v14, .int 0]))]) [0] rfl
  have hD9 := hD.sub (ws' := [(h0, .inr (16, [v0, v1, v2, v3, v4, v5, v6, v7, v8, v9, v10, v11, v12, v13, v14, .int 0]))]) [0] (by decide) rfl
  have hK9 := hK.sub (tys' := []) [] rfl
  refine W.widen (k := 0) (n := 0) (Nat.le_of_ble_eq_true rfl) (Nat.le_of_ble_eq_true rfl) ?_
  exact W.iret (v := 0) hx hb hr (fun t ht hW => ⟨⟨_, (), rfl, rfl, by rw [ht]; exact hP9, va_K.moved hW.alike hK9, hD9⟩, hS.F ht⟩) hS.2.2 dX9_stateOf_84
set_option maxHeartbeats 4000000 in
set_option maxRecDepth 100000 in
theorem kX9_house_8 (l : Launch) (dC : Nat → ClassId) (dI : Nat → Nat → Nat) (g : Nat → Nat) (sz : Nat) (h0 : Nat) (v0 : Value) (v1 : Value) (v2 : Value) (v3 : Value) (v4 : Value) (v5 : Value) (v6 : Value) (v7 : Value) (v8 : Value) (v9 : Value) (v10 : Value) (v11 : Value) (v12 : Value) (v13 : Value) (v14 : Value) : Met l yX9_house wsX9_house ({ frames := 1, cells := 0, slots := 0, locals := 21 }) (va_Pc [.ref h0, .int 6] (fun U => U.heap.size = sz ∧ va_P (dC, dI) vwCl [(h0, .inr (16, [v0, v1, v2, v3, v4, v5, v6, v7, v8, v9, v10, v11, v12, v13, v14, .int 0]))] U.heap ∧ va_K (dC, dI) vwCl [] U ∧ va_D (fun _ => True) [(h0, .inr (16, [v0, v1, v2, v3, v4, v5, v6, v7, v8, v9, v10, v11, v12, v13, v14, .int 0]))] ∧ ns_F g (va_A [(h0, .inr (16, [v0, v1, v2, v3, v4, v5, v6, v7, v8, v9, v10, v11, v12, v13, v14, .int 0]))] sz) U U.heap)) (va_Qi (fun (r : Int32) (_ : Unit) => r = 0) (fun _ t => va_P (dC, dI) vwCl [(h0, .inr (16, [v0, v1, v2, v3, v4, v5, v6, v7, v8, v9, v10, v11, v12, v13, v14, .int 0]))] t.heap ∧ va_K (dC, dI) vwCl [] t ∧ va_D (va_A [(h0, .inr (16, [v0, v1, v2, v3, v4, v5, v6, v7, v8, v9, v10, v11, v12, v13, v14, .int 0]))] sz) [(h0, .inr (16, [v0, v1, v2, v3, v4, v5, v6, v7, v8, v9, v10, v11, v12, v13, v14, .int 0]))]) (va_A [(h0, .inr (16, [v0, v1, v2, v3, v4, v5, v6, v7, v8, v9, v10, v11, v12, v13, v14, .int 0]))] sz)) 0 0 (va_A [(h0, .inr (16, [v0, v1, v2, v3, v4, v5, v6, v7, v8, v9, v10, v11, v12, v13, v14, .int 0]))] sz) := by
  refine Met.ofW (cc := cX9_house) (maxL := 2) (ret := (some .int)) (by decide) rfl ?_
  intro p e s m args below meth c s₁ B hml hv
  obtain ⟨rfl, hsz, hP, hK, hD0, hF⟩ := hv
  have hx := B.exec
  have hb := B.bytes
  have hr := B.returns
  have hts := atoms_spec (ws := wsX9_house) B.pre
  have hown : s.vm.findClass RX9 = some m.cls := findClass_of_methodNamed B.named
  have hlocks := B.notSynchronized
  subst hsz
  have hD := hD0.self (sz := s.heap.size)
  generalize hAe : va_A [(h0, .inr (16, [v0, v1, v2, v3, v4, v5, v6, v7, v8, v9, v10, v11, v12, v13, v14, .int 0]))] s.heap.size = A at hD hF ⊢
  have hA : ∀ q : Nat, s.heap.size ≤ q → A q := fun q h => by rw [← hAe]; exact Or.inr h
  have hS : va_S A s.heap s.heap [] := va_S.rf
  have hP : va_P (dC, dI) vwCl [(h0, .inr (16, [v0, v1, v2, v3, v4, v5, v6, v7, v8, v9, v10, v11, v12, v13, v14, .int 0]))] s.heap := hP
  have hl := lv_entry ([.ref h0, .int 6]) (n := 2) (Nat.le_of_ble_eq_true rfl)
  rw [lg_entry_eq]
  generalize (lg_sl ([.ref h0, .int 6]) ++ List.replicate (2 - (lg_sl ([.ref h0, .int 6])).length) Slot.unset).toArray = ls at hl ⊢
  have hl : lv_has ls 2 [(0, .ref h0), (1, .int 6)] := hl
  refine lv_iload_n hx hb dX9_house_0 rfl (lv_at hl 1 rfl) ?_
  refine lv_if_lt (tgt := 10) hx hb dX9_house_1 (by decide) (fun c1 => absurd c1 (by decide)) (fun c1 => ?_)
  refine lv_iload_n hx hb dX9_house_4 rfl (lv_at hl 1 rfl) ?_
  refine lv_bipush (v := 7) hx hb dX9_house_5 (by decide) ?_
  refine lv_icmp_le (tgt := 20) hx hb dX9_house_7 (by decide) (fun c2 => ?_) (fun c2 => absurd (by decide) c2)
  refine lv_aload_n hx hb dX9_house_20 rfl (lv_at hl 0 rfl) ?_
  refine lv_iload_n hx hb dX9_house_21 rfl (lv_at hl 1 rfl) ?_
  have hPc := hP.sub (ws' := [(h0, .inr (16, [v0, v1, v2, v3, v4, v5, v6, v7, v8, v9, v10, v11, v12, v13, v14, .int 0]))]) [0] rfl
  have hDc := hD.sub (ws' := [(h0, .inr (16, [v0, v1, v2, v3, v4, v5, v6, v7, v8, v9, v10, v11, v12, v13, v14, .int 0]))]) [0] (by decide) rfl
  have hKc := hK.sub (tys' := []) [] rfl
  have hFc := va_free (wc := [(h0, .inr (16, [v0, v1, v2, v3, v4, v5, v6, v7, v8, v9, v10, v11, v12, v13, v14, .int 0]))]) hD hS hA [0] rfl
  refine va_calli (va_runV (As := [.int 6]) (rest := []) ⟨hx, hb, hml, hown, hts⟩ (kX9_stateOf_7 l dC dI g s.heap.size h0 v0 v1 v2 v3 v4 v5 v6 v7 v8 v9 v10 v11 v12 v13 v14 ) (cwV 1 hts gX9_house_X9_stateOf rfl rfl rfl (by decide +kernel) ⟨Nat.le_of_ble_eq_true rfl, Nat.le_of_ble_eq_true rfl⟩) ⟨fun a U gg mk q => by obtain ⟨q0, q1, qP, qK, qD, qF⟩ := q; exact ⟨q0, q1, qP, va_K.moved (u := U) (U := U.calling gg mk a) (Vm.Alike.refl U.vm) qK, qD, ns_same qF⟩, va_recv hK hP (ci := 16) (q0 := 0) rfl rfl, fun U hU hW => ⟨rfl, by rw [hU], by rw [hU]; exact hPc, va_K.moved hW.alike hKc, hDc.weaken (fun _ _ _ _ => trivial), ns_call hF hS hFc hU hW⟩⟩ rfl rfl hl.1 rfl (lv_room (Nat.le_of_ble_eq_true rfl)) dX9_house_22 ⟨Nat.le_of_ble_eq_true rfl, Nat.le_of_ble_eq_true rfl⟩) hS (fun q _ h => hFc q h) hFc (fun r9 u t H1 locs ht hvm hw hB hz1 hk1 hS => ?_)
  obtain rfl := hw
  obtain ⟨hP1, hK1, hD1⟩ := hB
  rw [ht] at hP1
  have hK1 := va_K.moved hvm.symm hK1
  obtain ⟨hP, hD⟩ := va_join (wr := []) (w1 := [(h0, .inr (16, [v0, v1, v2, v3, v4, v5, v6, v7, v8, v9, v10, v11, v12, v13, v14, .int 0]))]) hP hD [0] [] rfl rfl (by decide) (by decide) hk1 hFc hP1 hD1
  have hK := (hK.sub (tys' := []) [] rfl).app hK1
  generalize H1 = H at hP hS ⊢
  have hP : va_P (dC, dI) vwCl [(h0, .inr (16, [v0, v1, v2, v3, v4, v5, v6, v7, v8, v9, v10, v11, v12, v13, v14, .int 0]))] H := hP
  have hD : va_D A [(h0, .inr (16, [v0, v1, v2, v3, v4, v5, v6, v7, v8, v9, v10, v11, v12, v13, v14, .int 0]))] := hD
  have hK : va_K (dC, dI) vwCl [] s := hK
  refine W.widen (k := 0) (n := 0) (Nat.le_of_ble_eq_true rfl) (Nat.le_of_ble_eq_true rfl) ?_
  have hP9 := hP.sub (ws' := [(h0, .inr (16, [v0, v1, v2, v3, v4, v5, v6, v7, v8, v9, v10, v11, v12, v13, v14, .int 0]))]) [0] rfl
  have hD9 := hD.sub (ws' := [(h0, .inr (16, [v0, v1, v2, v3, v4, v5, v6, v7, v8, v9, v10, v11, v12, v13, v14, .int 0]))]) [0] (by decide) rfl
  have hK9 := hK.sub (tys' := []) [] rfl
  refine W.widen (k := 0) (n := 0) (Nat.le_of_ble_eq_true rfl) (Nat.le_of_ble_eq_true rfl) ?_
  exact W.iret (v := 0) hx hb hr (fun t ht hW => ⟨⟨_, (), rfl, rfl, by rw [ht]; exact hP9, va_K.moved hW.alike hK9, hD9⟩, hS.F ht⟩) hS.2.2 dX9_house_25
set_option maxHeartbeats 4000000 in
set_option maxRecDepth 100000 in
theorem kL_house_8 (l : Launch) (dC : Nat → ClassId) (dI : Nat → Nat → Nat) (g : Nat → Nat) (sz : Nat) (h0 : Nat) (h1 : Nat) (v0 : Value) (v1 : Value) (v2 : Value) (v3 : Value) (v4 : Value) (v5 : Value) (v6 : Value) (v7 : Value) (v8 : Value) (v9 : Value) (v10 : Value) (v11 : Value) (v12 : Value) (v13 : Value) (v14 : Value) (v15 : Value) (v16 : Value) : Met l yL_house wsL_house ({ frames := 2, cells := 0, slots := 0, locals := 42 }) (va_Pc [.ref h0, .int 6, .ref h1] (fun U => U.heap.size = sz ∧ va_P (dC, dI) vwCl [(h0, .inr (16, [v0, v1, v2, v3, v4, v5, v6, v7, v8, v9, v10, v11, v12, v13, v14, .int 0])), (h1, .inr (17, [v15, v16]))] U.heap ∧ va_K (dC, dI) vwCl [] U ∧ va_D (fun _ => True) [(h0, .inr (16, [v0, v1, v2, v3, v4, v5, v6, v7, v8, v9, v10, v11, v12, v13, v14, .int 0])), (h1, .inr (17, [v15, v16]))] ∧ ns_F g (va_A [(h0, .inr (16, [v0, v1, v2, v3, v4, v5, v6, v7, v8, v9, v10, v11, v12, v13, v14, .int 0])), (h1, .inr (17, [v15, v16]))] sz) U U.heap)) (va_Qi (fun (r : Int32) (_ : Unit) => r = 0) (fun _ t => va_P (dC, dI) vwCl [(h1, .inr (17, [.long 0, v16])), (h0, .inr (16, [v0, v1, v2, v3, v4, v5, v6, v7, v8, v9, v10, v11, v12, v13, v14, .int 0]))] t.heap ∧ va_K (dC, dI) vwCl [] t ∧ va_D (va_A [(h0, .inr (16, [v0, v1, v2, v3, v4, v5, v6, v7, v8, v9, v10, v11, v12, v13, v14, .int 0])), (h1, .inr (17, [v15, v16]))] sz) [(h1, .inr (17, [.long 0, v16])), (h0, .inr (16, [v0, v1, v2, v3, v4, v5, v6, v7, v8, v9, v10, v11, v12, v13, v14, .int 0]))]) (va_A [(h0, .inr (16, [v0, v1, v2, v3, v4, v5, v6, v7, v8, v9, v10, v11, v12, v13, v14, .int 0])), (h1, .inr (17, [v15, v16]))] sz)) 0 0 (va_A [(h0, .inr (16, [v0, v1, v2, v3, v4, v5, v6, v7, v8, v9, v10, v11, v12, v13, v14, .int 0])), (h1, .inr (17, [v15, v16]))] sz) := by
  refine va_MetW (cc := cL_house) (maxL := 4) (ret := (some .int)) (hh := [(0, 10, 13, 19)]) (by decide) rfl ?_
  intro p e s m args below meth c s₁ B hml hv
  obtain ⟨rfl, hsz, hP, hK, hD0, hF⟩ := hv
  have hx := B.exec
  have hb := B.bytes
  have hr := B.returns
  have hts := atoms_spec (ws := wsL_house) B.pre
  have hown : s.vm.findClass RL = some m.cls := findClass_of_methodNamed B.named
  have hlocks := B.notSynchronized
  have htab : c.exceptionTable.toList = [⟨0, 10, 13, 19⟩] := vx_table B (hts _ List.mem_cons_self)
  subst hsz
  have hD := hD0.self (sz := s.heap.size)
  generalize hAe : va_A [(h0, .inr (16, [v0, v1, v2, v3, v4, v5, v6, v7, v8, v9, v10, v11, v12, v13, v14, .int 0])), (h1, .inr (17, [v15, v16]))] s.heap.size = A at hD hF ⊢
  have hA : ∀ q : Nat, s.heap.size ≤ q → A q := fun q h => by rw [← hAe]; exact Or.inr h
  have hS : va_S A s.heap s.heap [] := va_S.rf
  have hP : va_P (dC, dI) vwCl [(h0, .inr (16, [v0, v1, v2, v3, v4, v5, v6, v7, v8, v9, v10, v11, v12, v13, v14, .int 0])), (h1, .inr (17, [v15, v16]))] s.heap := hP
  have hl := lv_entry ([.ref h0, .int 6, .ref h1]) (n := 4) (Nat.le_of_ble_eq_true rfl)
  rw [lg_entry_eq]
  generalize (lg_sl ([.ref h0, .int 6, .ref h1]) ++ List.replicate (4 - (lg_sl ([.ref h0, .int 6, .ref h1])).length) Slot.unset).toArray = ls at hl ⊢
  have hl : lv_has ls 4 [(0, .ref h0), (1, .int 6), (2, .ref h1)] := hl
  refine lv_aload_n hx hb dL_house_0 rfl (lv_at hl 2 rfl) ?_
  refine lv_aload_n hx hb dL_house_1 rfl (lv_at hl 0 rfl) ?_
  refine lv_iload_n hx hb dL_house_2 rfl (lv_at hl 1 rfl) ?_
  have hPc := hP.sub (ws' := [(h0, .inr (16, [v0, v1, v2, v3, v4, v5, v6, v7, v8, v9, v10, v11, v12, v13, v14, .int 0]))]) [0] rfl
  have hDc := hD.sub (ws' := [(h0, .inr (16, [v0, v1, v2, v3, v4, v5, v6, v7, v8, v9, v10, v11, v12, v13, v14, .int 0]))]) [0] (by decide) rfl
  have hKc := hK.sub (tys' := []) [] rfl
  have hFc := va_free (wc := [(h0, .inr (16, [v0, v1, v2, v3, v4, v5, v6, v7, v8, v9, v10, v11, v12, v13, v14, .int 0]))]) hD hS hA [0] rfl
  refine va_calli (va_runV (As := [.int 6]) (rest := [.ref h1]) ⟨hx, hb, hml, hown, hts⟩ (kX9_house_8 l dC dI g s.heap.size h0 v0 v1 v2 v3 v4 v5 v6 v7 v8 v9 v10 v11 v12 v13 v14 ) (cwV 1 hts gL_house_X9_house rfl rfl rfl (by decide +kernel) ⟨Nat.le_of_ble_eq_true rfl, Nat.le_of_ble_eq_true rfl⟩) ⟨fun a U gg mk q => by obtain ⟨q0, q1, qP, qK, qD, qF⟩ := q; exact ⟨q0, q1, qP, va_K.moved (u := U) (U := U.calling gg mk a) (Vm.Alike.refl U.vm) qK, qD, ns_same qF⟩, va_recv hK hP (ci := 16) (q0 := 0) rfl rfl, fun U hU hW => ⟨rfl, by rw [hU], by rw [hU]; exact hPc, va_K.moved hW.alike hKc, hDc.weaken (fun _ _ _ _ => trivial), ns_call hF hS hFc hU hW⟩⟩ rfl rfl hl.1 rfl (lv_room (Nat.le_of_ble_eq_true rfl)) dL_house_3 ⟨Nat.le_of_ble_eq_true rfl, Nat.le_of_ble_eq_true rfl⟩) hS (fun q _ h => hFc q h) hFc (fun r9 u t H1 locs ht hvm hw hB hz1 hk1 hS => ?_)
  obtain rfl := hw
  obtain ⟨hP1, hK1, hD1⟩ := hB
  rw [ht] at hP1
  have hK1 := va_K.moved hvm.symm hK1
  obtain ⟨hP, hD⟩ := va_join (wr := [(h1, .inr (17, [v15, v16]))]) (w1 := [(h0, .inr (16, [v0, v1, v2, v3, v4, v5, v6, v7, v8, v9, v10, v11, v12, v13, v14, .int 0]))]) hP hD [0] [1] rfl rfl (by decide) (by decide) hk1 hFc hP1 hD1
  have hK := (hK.sub (tys' := []) [] rfl).app hK1
  generalize H1 = H at hP hS ⊢
  have hP : va_P (dC, dI) vwCl [(h1, .inr (17, [v15, v16])), (h0, .inr (16, [v0, v1, v2, v3, v4, v5, v6, v7, v8, v9, v10, v11, v12, v13, v14, .int 0]))] H := hP
  have hD : va_D A [(h1, .inr (17, [v15, v16])), (h0, .inr (16, [v0, v1, v2, v3, v4, v5, v6, v7, v8, v9, v10, v11, v12, v13, v14, .int 0]))] := hD
  have hK : va_K (dC, dI) vwCl [] s := hK
  refine W.widen (k := 0) (n := 0) (Nat.le_of_ble_eq_true rfl) (Nat.le_of_ble_eq_true rfl) ?_
  refine lv_i2l (v := 0) hx hb dL_house_6 (by decide) ?_
  refine va_putN (D := (dC, dI)) (ci := 17) (v := .long 0) (ty := .long) (C := RX10) (T := TX10) (N := 2) hx hb hts (by decide +kernel) tyX10 tyX10_ok nmX10 hown hK hP hD hS 0 rfl rfl 0 (by decide) (va_Nw.use rfl (ns_f7 hF)) (fun _ h9 => h9) rfl (by decide +kernel) rfl rfl (Nat.le_of_ble_eq_true rfl) dL_house_7 (fun H locs hP hD hS => ?_)
  have hP : va_P (dC, dI) vwCl [(h1, .inr (17, [.long 0, v16])), (h0, .inr (16, [v0, v1, v2, v3, v4, v5, v6, v7, v8, v9, v10, v11, v12, v13, v14, .int 0]))] H := hP
  have hD : va_D A [(h1, .inr (17, [.long 0, v16])), (h0, .inr (16, [v0, v1, v2, v3, v4, v5, v6, v7, v8, v9, v10, v11, v12, v13, v14, .int 0]))] := hD
  refine lv_goto (tgt := 16) hx hb dL_house_10 (by decide) ?_
  refine lv_iconst (v := 0) hx hb dL_house_16 (by decide) ?_
  have hP9 := hP.sub (ws' := [(h1, .inr (17, [.long 0, v16])), (h0, .inr (16, [v0, v1, v2, v3, v4, v5, v6, v7, v8, v9, v10, v11, v12, v13, v14, .int 0]))]) [0, 1] rfl
  have hD9 := hD.sub (ws' := [(h1, .inr (17, [.long 0, v16])), (h0, .inr (16, [v0, v1, v2, v3, v4, v5, v6, v7, v8, v9, v10, v11, v12, v13, v14, .int 0]))]) [0, 1] (by decide) rfl
  have hK9 := hK.sub (tys' := []) [] rfl
  refine W.widen (k := 0) (n := 0) (Nat.le_of_ble_eq_true rfl) (Nat.le_of_ble_eq_true rfl) ?_
  exact W.iret (v := 0) hx hb hr (fun t ht hW => ⟨⟨_, (), rfl, rfl, by rw [ht]; exact hP9, va_K.moved hW.alike hK9, hD9⟩, hS.F ht⟩) hS.2.2 dL_house_17
set_option maxHeartbeats 4000000 in
set_option maxRecDepth 100000 in
theorem kX16_isIn_22 (l : Launch) (dC : Nat → ClassId) (dI : Nat → Nat → Nat) (g : Nat → Nat) (sz : Nat)  : Met l yX16_isIn wsX16_isIn ({ frames := 0, cells := 0, slots := 0, locals := 0 }) (va_Pc [.int 6, .int 0, .int 7] (fun U => U.heap.size = sz ∧ va_P (dC, dI) vwCl [] U.heap ∧ va_K (dC, dI) vwCl [] U ∧ va_D (fun _ => True) [] ∧ ns_F g (va_A [] sz) U U.heap)) (va_Qi (fun (r : Int32) (_ : Unit) => r = 1) (fun _ t => va_P (dC, dI) vwCl [] t.heap ∧ va_K (dC, dI) vwCl [] t ∧ va_D (va_A [] sz) []) (va_A [] sz)) 0 0 (va_A [] sz) := by
  refine Met.ofW (cc := cX16_isIn) (maxL := 3) (ret := (some .boolean)) (by decide) rfl ?_
  intro p e s m args below meth c s₁ B hml hv
  obtain ⟨rfl, hsz, hP, hK, hD0, hF⟩ := hv
  have hx := B.exec
  have hb := B.bytes
  have hr := B.returns
  have hts := atoms_spec (ws := wsX16_isIn) B.pre
  have hown : s.vm.findClass RX16 = some m.cls := findClass_of_methodNamed B.named
  have hlocks := B.notSynchronized
  subst hsz
  have hD := hD0.self (sz := s.heap.size)
  generalize hAe : va_A [] s.heap.size = A at hD hF ⊢
  have hA : ∀ q : Nat, s.heap.size ≤ q → A q := fun q h => by rw [← hAe]; exact Or.inr h
  have hS : va_S A s.heap s.heap [] := va_S.rf
  have hP : va_P (dC, dI) vwCl [] s.heap := hP
  have hl := lv_entry ([.int 6, .int 0, .int 7]) (n := 3) (Nat.le_of_ble_eq_true rfl)
  rw [lg_entry_eq]
  generalize (lg_sl ([.int 6, .int 0, .int 7]) ++ List.replicate (3 - (lg_sl ([.int 6, .int 0, .int 7])).length) Slot.unset).toArray = ls at hl ⊢
  have hl : lv_has ls 3 [(0, .int 6), (1, .int 0), (2, .int 7)] := hl
  refine lv_iload_n hx hb dX16_isIn_0 rfl (lv_at hl 0 rfl) ?_
  refine lv_iload_n hx hb dX16_isIn_1 rfl (lv_at hl 1 rfl) ?_
  refine lv_icmp_lt (tgt := 14) hx hb dX16_isIn_2 (by decide) (fun c1 => absurd c1 (by decide)) (fun c1 => ?_)
  refine lv_iload_n hx hb dX16_isIn_5 rfl (lv_at hl 0 rfl) ?_
  refine lv_iload_n hx hb dX16_isIn_6 rfl (lv_at hl 2 rfl) ?_
  refine lv_icmp_gt (tgt := 14) hx hb dX16_isIn_7 (by decide) (fun c2 => absurd c2 (by decide)) (fun c2 => ?_)
  refine lv_iconst (v := 1) hx hb dX16_isIn_10 (by decide) ?_
  refine lv_goto (tgt := 15) hx hb dX16_isIn_11 (by decide) ?_
  have hP9 := hP.sub (ws' := []) [] rfl
  have hD9 := hD.sub (ws' := []) [] (by decide) rfl
  have hK9 := hK.sub (tys' := []) [] rfl
  refine W.widen (k := 0) (n := 0) (Nat.le_of_ble_eq_true rfl) (Nat.le_of_ble_eq_true rfl) ?_
  exact W.zret (v := 1) hx hb hr (by decide) (fun t ht hW => ⟨⟨_, (), rfl, rfl, by rw [ht]; exact hP9, va_K.moved hW.alike hK9, hD9⟩, hS.F ht⟩) hS.2.2 dX16_isIn_15
set_option maxHeartbeats 4000000 in
set_option maxRecDepth 100000 in
theorem kX16_houseTold_7 (l : Launch) (dC : Nat → ClassId) (dI : Nat → Nat → Nat) (g : Nat → Nat) (sz : Nat) (h0 : Nat) (h1 : Nat) (v0 : Value) (v1 : Value) (v2 : Value) : Met l yX16_houseTold wsX16_houseTold ({ frames := 3, cells := 2, slots := 12, locals := 53 }) (va_Pc [.ref h0, .int 6] (fun U => U.heap.size = sz ∧ va_P (dC, dI) vwCl [(h0, .inr (23, [v0, .ref h1, .int 20, .int 60, .ref (g 34), v1, .int 0, .int 0, .int 0])), (h1, .inr (6, [.int 0, v2, .int 0]))] U.heap ∧ va_K (dC, dI) vwCl [] U ∧ va_D (fun _ => True) [(h0, .inr (23, [v0, .ref h1, .int 20, .int 60, .ref (g 34), v1, .int 0, .int 0, .int 0])), (h1, .inr (6, [.int 0, v2, .int 0]))] ∧ ns_F g (va_A [(h0, .inr (23, [v0, .ref h1, .int 20, .int 60, .ref (g 34), v1, .int 0, .int 0, .int 0])), (h1, .inr (6, [.int 0, v2, .int 0]))] sz) U U.heap)) (va_Qi (fun (r : Int32) (_ : Unit) => r = 0) (fun _ t => ∃ k0 : Nat, ∃ k1 : Nat, ∃ kc2 : ClassId, va_P (dC, dI) vwCl [(h0, .inr (23, [v0, .ref h1, .int 20, .int 60, .ref (g 34), v1, .int 0, .int 0, .int 0])), (k0, .inr (5, [.int 0, .int (-1), .int 0, .ref h1])), (k1, .inl (kc2, 8, .inl (upd (upd (upd (upd (upd (upd (upd (upd (fun _ => 0) 0 0) 1 20) 2 60) 3 0) 4 0) 5 0) 6 0) 7 0))), (h1, .inr (6, [.int 0, v2, .int 0]))] t.heap ∧ va_K (dC, dI) vwCl [(kc2, .int)] t ∧ va_D (va_A [(h0, .inr (23, [v0, .ref h1, .int 20, .int 60, .ref (g 34), v1, .int 0, .int 0, .int 0])), (h1, .inr (6, [.int 0, v2, .int 0]))] sz) [(h0, .inr (23, [v0, .ref h1, .int 20, .int 60, .ref (g 34), v1, .int 0, .int 0, .int 0])), (k0, .inr (5, [.int 0, .int (-1), .int 0, .ref h1])), (k1, .inl (kc2, 8, .inl (upd (upd (upd (upd (upd (upd (upd (upd (fun _ => 0) 0 0) 1 20) 2 60) 3 0) 4 0) 5 0) 6 0) 7 0))), (h1, .inr (6, [.int 0, v2, .int 0]))]) (va_A [(h0, .inr (23, [v0, .ref h1, .int 20, .int 60, .ref (g 34), v1, .int 0, .int 0, .int 0])), (h1, .inr (6, [.int 0, v2, .int 0]))] sz)) 2 12 (va_A [(h0, .inr (23, [v0, .ref h1, .int 20, .int 60, .ref (g 34), v1, .int 0, .int 0, .int 0])), (h1, .inr (6, [.int 0, v2, .int 0]))] sz) := by
  refine Met.ofW (cc := cX16_houseTold) (maxL := 5) (ret := (some .int)) (by decide) rfl ?_
  intro p e s m args below meth c s₁ B hml hv
  obtain ⟨rfl, hsz, hP, hK, hD0, hF⟩ := hv
  have hx := B.exec
  have hb := B.bytes
  have hr := B.returns
  have hts := atoms_spec (ws := wsX16_houseTold) B.pre
  have hown : s.vm.findClass RX16 = some m.cls := findClass_of_methodNamed B.named
  have hlocks := B.notSynchronized
  subst hsz
  have hD := hD0.self (sz := s.heap.size)
  generalize hAe : va_A [(h0, .inr (23, [v0, .ref h1, .int 20, .int 60, .ref (g 34), v1, .int 0, .int 0, .int 0])), (h1, .inr (6, [.int 0, v2, .int 0]))] s.heap.size = A at hD hF ⊢
  have hA : ∀ q : Nat, s.heap.size ≤ q → A q := fun q h => by rw [← hAe]; exact Or.inr h
  have hS : va_S A s.heap s.heap [] := va_S.rf
  have hP : va_P (dC, dI) vwCl [(h0, .inr (23, [v0, .ref h1, .int 20, .int 60, .ref (g 34), v1, .int 0, .int 0, .int 0])), (h1, .inr (6, [.int 0, v2, .int 0]))] s.heap := hP
  have hl := lv_entry ([.ref h0, .int 6]) (n := 5) (Nat.le_of_ble_eq_true rfl)
  rw [lg_entry_eq]
  generalize (lg_sl ([.ref h0, .int 6]) ++ List.replicate (5 - (lg_sl ([.ref h0, .int 6])).length) Slot.unset).toArray = ls at hl ⊢
  have hl : lv_has ls 5 [(0, .ref h0), (1, .int 6)] := hl
  refine lv_iconst (v := 0) hx hb dX16_houseTold_0 (by decide) ?_
  refine lv_istore_n (lv' := [(2, .int 0), (0, .ref h0), (1, .int 6)]) hx hb dX16_houseTold_1 rfl hl (by decide) rfl (fun ls hl => ?_)
  refine lv_aload_n hx hb dX16_houseTold_2 rfl (lv_at hl 1 rfl) ?_
  refine va_get (D := (dC, dI)) (ci := 23) (v := .ref h1) (C := RX16) (T := TX16) (N := 9) hx hb hts (by decide +kernel) hown hK hP 0 rfl rfl 1 (by decide) (hts (.fieldLink RX16 10 "NestprintModel" "nodes" "Ljava/util/ArrayList;") (by decide +kernel)) (fun _ h9 => h9) rfl dX16_houseTold_3 ?_
  have hPc := hP.sub (ws' := [(h1, .inr (6, [.int 0, v2, .int 0]))]) [1] rfl
  have hDc := hD.sub (ws' := [(h1, .inr (6, [.int 0, v2, .int 0]))]) [1] (by decide) rfl
  have hKc := hK.sub (tys' := []) [] rfl
  have hFc := va_free (wc := [(h1, .inr (6, [.int 0, v2, .int 0]))]) hD hS hA [1] rfl
  refine va_callr (va_runV (As := []) (rest := []) ⟨hx, hb, hml, hown, hts⟩ (kJx4a65c_iterator_32c93 l dC dI g s.heap.size h1 v2 (.int 0) ) (cwV 0 hts gX16_houseTold_Jx4a65c_iterator_32c93 rfl rfl rfl (by decide +kernel) ⟨Nat.le_of_ble_eq_true rfl, Nat.le_of_ble_eq_true rfl⟩) ⟨fun a U gg mk q => by obtain ⟨q0, q1, qP, qK, qD, qF⟩ := q; exact ⟨q0, q1, qP, va_K.moved (u := U) (U := U.calling gg mk a) (Vm.Alike.refl U.vm) qK, qD, ns_same qF⟩, va_recv hK hP (ci := 6) (q0 := 1) rfl rfl, fun U hU hW => ⟨rfl, by rw [hU], by rw [hU]; exact hPc, va_K.moved hW.alike hKc, hDc.weaken (fun _ _ _ _ => trivial), ns_call hF hS hFc hU hW⟩⟩ rfl rfl hl.1 rfl (lv_room (Nat.le_of_ble_eq_true rfl)) dX16_houseTold_6 ⟨Nat.le_of_ble_eq_true rfl, Nat.le_of_ble_eq_true rfl⟩) hS (fun q _ h => hFc q h) hFc (fun u r9 t H1 locs ht hvm hw hB hz1 hk1 hS => ?_)
  obtain ⟨q1, rfl, hP1, hK1, hD1⟩ := hB
  rw [ht] at hP1
  have hK1 := va_K.moved hvm.symm hK1
  obtain ⟨hP, hD⟩ := va_join (wr := [(h0, .inr (23, [v0, .ref h1, .int 20, .int 60, .ref (g 34), v1, .int 0, .int 0, .int 0]))]) (w1 := [(q1, .inr (5, [.int 0, .int (-1), .int 0, .ref h1])), (h1, .inr (6, [.int 0, v2, .int 0]))]) hP hD [1] [0] rfl rfl (by decide) (by decide) hk1 hFc hP1 hD1
  have hK := (hK.sub (tys' := []) [] rfl).app hK1
  generalize H1 = H at hP hS ⊢
  have hP : va_P (dC, dI) vwCl [(h0, .inr (23, [v0, .ref h1, .int 20, .int 60, .ref (g 34), v1, .int 0, .int 0, .int 0])), (q1, .inr (5, [.int 0, .int (-1), .int 0, .ref h1])), (h1, .inr (6, [.int 0, v2, .int 0]))] H := hP
  have hD : va_D A [(h0, .inr (23, [v0, .ref h1, .int 20, .int 60, .ref (g 34), v1, .int 0, .int 0, .int 0])), (q1, .inr (5, [.int 0, .int (-1), .int 0, .ref h1])), (h1, .inr (6, [.int 0, v2, .int 0]))] := hD
  have hK : va_K (dC, dI) vwCl [] s := hK
  refine W.widen (k := 1) (n := 4) (Nat.le_of_ble_eq_true rfl) (Nat.le_of_ble_eq_true rfl) ?_
  refine lv_astore_n (lv' := [(3, .ref q1), (2, .int 0), (0, .ref h0), (1, .int 6)]) hx hb dX16_houseTold_9 rfl hl (by decide) rfl (fun ls hl => ?_)
  refine lv_aload_n hx hb dX16_houseTold_10 rfl (lv_at hl 0 rfl) ?_
  have hPc := hP.sub (ws' := [(q1, .inr (5, [.int 0, .int (-1), .int 0, .ref h1])), (h1, .inr (6, [.int 0, v2, .int 0]))]) [1, 2] rfl
  have hDc := hD.sub (ws' := [(q1, .inr (5, [.int 0, .int (-1), .int 0, .ref h1])), (h1, .inr (6, [.int 0, v2, .int 0]))]) [1, 2] (by decide) rfl
  have hKc := hK.sub (tys' := []) [] rfl
  have hFc := va_free (wc := [(q1, .inr (5, [.int 0, .int (-1), .int 0, .ref h1])), (h1, .inr (6, [.int 0, v2, .int 0]))]) hD hS hA [1, 2] rfl
  refine va_callFi (va_runF (hK.1 5 _ rfl).2 (As := []) (rest := []) ⟨hx, hb, hml, hown, hts⟩ (kJx35411_hasNext_aae02 l dC dI g H.size q1 h1 (.int (-1)) (.int 0) (.int 0) v2 ) (va_cwF 0 hts gX16_houseTold_Jx35411_hasNext_aae02_f133Jx35411 rfl rfl rfl (ns_f51 hF) (by decide +kernel) ⟨Nat.le_of_ble_eq_true rfl, Nat.le_of_ble_eq_true rfl⟩) ⟨fun a U gg mk q => by obtain ⟨q0, q1, qP, qK, qD, qF⟩ := q; exact ⟨q0, q1, qP, va_K.moved (u := U) (U := U.calling gg mk a) (Vm.Alike.refl U.vm) qK, qD, ns_same qF⟩, va_recv hK hP (ci := 5) (q0 := 1) rfl rfl, fun U hU hW => ⟨rfl, by rw [hU], by rw [hU]; exact hPc, va_K.moved hW.alike hKc, hDc.weaken (fun _ _ _ _ => trivial), ns_call hF hS hFc hU hW⟩⟩ rfl rfl hl.1 rfl (lv_room (Nat.le_of_ble_eq_true rfl)) dX16_houseTold_11 ⟨Nat.le_of_ble_eq_true rfl, Nat.le_of_ble_eq_true rfl⟩) hS (fun q _ h => hFc q h) hFc (fun r9 u t H1 locs ht hvm hw hB hz1 hk1 hS => ?_)
  obtain rfl := hw
  obtain ⟨hP1, hK1, hD1⟩ := hB
  rw [ht] at hP1
  have hK1 := va_K.moved hvm.symm hK1
  obtain ⟨hP, hD⟩ := va_join (wr := [(h0, .inr (23, [v0, .ref h1, .int 20, .int 60, .ref (g 34), v1, .int 0, .int 0, .int 0]))]) (w1 := [(q1, .inr (5, [.int 0, .int (-1), .int 0, .ref h1])), (h1, .inr (6, [.int 0, v2, .int 0]))]) hP hD [1, 2] [0] rfl rfl (by decide) (by decide) hk1 hFc hP1 hD1
  have hK := (hK.sub (tys' := []) [] rfl).app hK1
  generalize H1 = H at hP hS ⊢
  have hP : va_P (dC, dI) vwCl [(h0, .inr (23, [v0, .ref h1, .int 20, .int 60, .ref (g 34), v1, .int 0, .int 0, .int 0])), (q1, .inr (5, [.int 0, .int (-1), .int 0, .ref h1])), (h1, .inr (6, [.int 0, v2, .int 0]))] H := hP
  have hD : va_D A [(h0, .inr (23, [v0, .ref h1, .int 20, .int 60, .ref (g 34), v1, .int 0, .int 0, .int 0])), (q1, .inr (5, [.int 0, .int (-1), .int 0, .ref h1])), (h1, .inr (6, [.int 0, v2, .int 0]))] := hD
  have hK : va_K (dC, dI) vwCl [] s := hK
  refine W.widen (k := 1) (n := 4) (Nat.le_of_ble_eq_true rfl) (Nat.le_of_ble_eq_true rfl) ?_
  refine lv_if_eq (tgt := 41) hx hb dX16_houseTold_16 (by decide) (fun c2 => ?_) (fun c2 => absurd (by decide) c2)
  refine lv_bipush (v := 8) hx hb dX16_houseTold_41 (by decide) ?_
  refine va_newa (atype := .int) hx hb (hts (.arrayClass .int) (by decide +kernel)) rfl hK hP hD hS hA (N' := 8) (a0 := (8, .inl (fun _ => 0))) (fun _ => rfl) (by decide) (by decide) (Nat.le_of_ble_eq_true rfl) (Nat.le_of_ble_eq_true rfl) (Nat.le_of_ble_eq_true rfl) dX16_houseTold_43 (fun q3 cyq3 H hK hP hD hS => ?_)
  have hP : va_P (dC, dI) vwCl [(h0, .inr (23, [v0, .ref h1, .int 20, .int 60, .ref (g 34), v1, .int 0, .int 0, .int 0])), (q1, .inr (5, [.int 0, .int (-1), .int 0, .ref h1])), (h1, .inr (6, [.int 0, v2, .int 0])), (q3, .inl (cyq3, 8, .inl (fun _ => 0)))] H := hP
  have hD : va_D A [(h0, .inr (23, [v0, .ref h1, .int 20, .int 60, .ref (g 34), v1, .int 0, .int 0, .int 0])), (q1, .inr (5, [.int 0, .int (-1), .int 0, .ref h1])), (h1, .inr (6, [.int 0, v2, .int 0])), (q3, .inl (cyq3, 8, .inl (fun _ => 0)))] := hD
  have hK : va_K (dC, dI) vwCl [(cyq3, .int)] s := hK
  refine W.widen (k := 2) (n := 12) (Nat.le_of_ble_eq_true rfl) (Nat.le_of_ble_eq_true rfl) ?_
  refine lv_dup hx hb dX16_houseTold_45 rfl ?_
  refine lv_iconst (v := 0) hx hb dX16_houseTold_46 (by decide) ?_
  refine lv_aload_n hx hb dX16_houseTold_47 rfl (lv_at hl 2 rfl) ?_
  refine va_get (D := (dC, dI)) (ci := 23) (v := .ref h1) (C := RX16) (T := TX16) (N := 9) hx hb hts (by decide +kernel) hown hK hP 0 rfl rfl 1 (by decide) (hts (.fieldLink RX16 10 "NestprintModel" "nodes" "Ljava/util/ArrayList;") (by decide +kernel)) (fun _ h9 => h9) rfl dX16_houseTold_48 ?_
  have hPc := hP.sub (ws' := [(h1, .inr (6, [.int 0, v2, .int 0]))]) [2] rfl
  have hDc := hD.sub (ws' := [(h1, .inr (6, [.int 0, v2, .int 0]))]) [2] (by decide) rfl
  have hKc := hK.sub (tys' := []) [] rfl
  have hFc := va_free (wc := [(h1, .inr (6, [.int 0, v2, .int 0]))]) hD hS hA [2] rfl
  refine va_calli (va_runV (As := []) (rest := [.int 0, .ref q3, .ref q3]) ⟨hx, hb, hml, hown, hts⟩ (kJx4a65c_size_8abf5 l dC dI g H.size h1 (.int 0) v2 ) (cwV 0 hts gX16_houseTold_Jx4a65c_size_8abf5 rfl rfl rfl (by decide +kernel) ⟨Nat.le_of_ble_eq_true rfl, Nat.le_of_ble_eq_true rfl⟩) ⟨fun a U gg mk q => by obtain ⟨q0, q1, qP, qK, qD, qF⟩ := q; exact ⟨q0, q1, qP, va_K.moved (u := U) (U := U.calling gg mk a) (Vm.Alike.refl U.vm) qK, qD, ns_same qF⟩, va_recv hK hP (ci := 6) (q0 := 2) rfl rfl, fun U hU hW => ⟨rfl, by rw [hU], by rw [hU]; exact hPc, va_K.moved hW.alike hKc, hDc.weaken (fun _ _ _ _ => trivial), ns_call hF hS hFc hU hW⟩⟩ rfl rfl hl.1 rfl (lv_room (Nat.le_of_ble_eq_true rfl)) dX16_houseTold_51 ⟨Nat.le_of_ble_eq_true rfl, Nat.le_of_ble_eq_true rfl⟩) hS (fun q _ h => hFc q h) hFc (fun r9 u t H1 locs ht hvm hw hB hz1 hk1 hS => ?_)
  obtain rfl := hw
  obtain ⟨hP1, hK1, hD1⟩ := hB
  rw [ht] at hP1
  have hK1 := va_K.moved hvm.symm hK1
  obtain ⟨hP, hD⟩ := va_join (wr := [(h0, .inr (23, [v0, .ref h1, .int 20, .int 60, .ref (g 34), v1, .int 0, .int 0, .int 0])), (q1, .inr (5, [.int 0, .int (-1), .int 0, .ref h1])), (q3, .inl (cyq3, 8, .inl (fun _ => 0)))]) (w1 := [(h1, .inr (6, [.int 0, v2, .int 0]))]) hP hD [2] [0, 1, 3] rfl rfl (by decide) (by decide) hk1 hFc hP1 hD1
  have hK := (hK.sub (tys' := [(cyq3, .int)]) [0] rfl).app hK1
  generalize H1 = H at hP hS ⊢
  have hP : va_P (dC, dI) vwCl [(h0, .inr (23, [v0, .ref h1, .int 20, .int 60, .ref (g 34), v1, .int 0, .int 0, .int 0])), (q1, .inr (5, [.int 0, .int (-1), .int 0, .ref h1])), (q3, .inl (cyq3, 8, .inl (fun _ => 0))), (h1, .inr (6, [.int 0, v2, .int 0]))] H := hP
  have hD : va_D A [(h0, .inr (23, [v0, .ref h1, .int 20, .int 60, .ref (g 34), v1, .int 0, .int 0, .int 0])), (q1, .inr (5, [.int 0, .int (-1), .int 0, .ref h1])), (q3, .inl (cyq3, 8, .inl (fun _ => 0))), (h1, .inr (6, [.int 0, v2, .int 0]))] := hD
  have hK : va_K (dC, dI) vwCl [(cyq3, .int)] s := hK
  refine W.widen (k := 2) (n := 12) (Nat.le_of_ble_eq_true rfl) (Nat.le_of_ble_eq_true rfl) ?_
  refine va_iast hx hb hK hP hD hS 2 0 rfl rfl (vp_in_nI (n := 0) (by decide) (by decide)) dX16_houseTold_54 (fun H locs hP hD hS => ?_)
  have hP : va_P (dC, dI) vwCl [(h0, .inr (23, [v0, .ref h1, .int 20, .int 60, .ref (g 34), v1, .int 0, .int 0, .int 0])), (q1, .inr (5, [.int 0, .int (-1), .int 0, .ref h1])), (q3, .inl (cyq3, 8, .inl (upd (fun _ => 0) 0 0))), (h1, .inr (6, [.int 0, v2, .int 0]))] H := hP
  have hD : va_D A [(h0, .inr (23, [v0, .ref h1, .int 20, .int 60, .ref (g 34), v1, .int 0, .int 0, .int 0])), (q1, .inr (5, [.int 0, .int (-1), .int 0, .ref h1])), (q3, .inl (cyq3, 8, .inl (upd (fun _ => 0) 0 0))), (h1, .inr (6, [.int 0, v2, .int 0]))] := hD
  refine lv_dup hx hb dX16_houseTold_55 rfl ?_
  refine lv_iconst (v := 1) hx hb dX16_houseTold_56 (by decide) ?_
  refine lv_aload_n hx hb dX16_houseTold_57 rfl (lv_at hl 2 rfl) ?_
  refine va_get (D := (dC, dI)) (ci := 23) (v := .int 20) (C := RX16) (T := TX16) (N := 9) hx hb hts (by decide +kernel) hown hK hP 0 rfl rfl 2 (by decide) (hts (.fieldLink RX16 16 "NestprintModel" "width" "I") (by decide +kernel)) (fun _ h9 => h9) rfl dX16_houseTold_58 ?_
  refine va_iast hx hb hK hP hD hS 2 0 rfl rfl (vp_in_nI (n := 1) (by decide) (by decide)) dX16_houseTold_61 (fun H locs hP hD hS => ?_)
  have hP : va_P (dC, dI) vwCl [(h0, .inr (23, [v0, .ref h1, .int 20, .int 60, .ref (g 34), v1, .int 0, .int 0, .int 0])), (q1, .inr (5, [.int 0, .int (-1), .int 0, .ref h1])), (q3, .inl (cyq3, 8, .inl (upd (upd (fun _ => 0) 0 0) 1 20))), (h1, .inr (6, [.int 0, v2, .int 0]))] H := hP
  have hD : va_D A [(h0, .inr (23, [v0, .ref h1, .int 20, .int 60, .ref (g 34), v1, .int 0, .int 0, .int 0])), (q1, .inr (5, [.int 0, .int (-1), .int 0, .ref h1])), (q3, .inl (cyq3, 8, .inl (upd (upd (fun _ => 0) 0 0) 1 20))), (h1, .inr (6, [.int 0, v2, .int 0]))] := hD
  refine lv_dup hx hb dX16_houseTold_62 rfl ?_
  refine lv_iconst (v := 2) hx hb dX16_houseTold_63 (by decide) ?_
  refine lv_aload_n hx hb dX16_houseTold_64 rfl (lv_at hl 2 rfl) ?_
  refine va_get (D := (dC, dI)) (ci := 23) (v := .int 60) (C := RX16) (T := TX16) (N := 9) hx hb hts (by decide +kernel) hown hK hP 0 rfl rfl 3 (by decide) (hts (.fieldLink RX16 20 "NestprintModel" "ribbon" "I") (by decide +kernel)) (fun _ h9 => h9) rfl dX16_houseTold_65 ?_
  refine va_iast hx hb hK hP hD hS 2 0 rfl rfl (vp_in_nI (n := 2) (by decide) (by decide)) dX16_houseTold_68 (fun H locs hP hD hS => ?_)
  have hP : va_P (dC, dI) vwCl [(h0, .inr (23, [v0, .ref h1, .int 20, .int 60, .ref (g 34), v1, .int 0, .int 0, .int 0])), (q1, .inr (5, [.int 0, .int (-1), .int 0, .ref h1])), (q3, .inl (cyq3, 8, .inl (upd (upd (upd (fun _ => 0) 0 0) 1 20) 2 60))), (h1, .inr (6, [.int 0, v2, .int 0]))] H := hP
  have hD : va_D A [(h0, .inr (23, [v0, .ref h1, .int 20, .int 60, .ref (g 34), v1, .int 0, .int 0, .int 0])), (q1, .inr (5, [.int 0, .int (-1), .int 0, .ref h1])), (q3, .inl (cyq3, 8, .inl (upd (upd (upd (fun _ => 0) 0 0) 1 20) 2 60))), (h1, .inr (6, [.int 0, v2, .int 0]))] := hD
  refine lv_dup hx hb dX16_houseTold_69 rfl ?_
  refine lv_iconst (v := 3) hx hb dX16_houseTold_70 (by decide) ?_
  refine lv_aload_n hx hb dX16_houseTold_71 rfl (lv_at hl 2 rfl) ?_
  refine va_get (D := (dC, dI)) (ci := 23) (v := .ref (g 34)) (C := RX16) (T := TX16) (N := 9) hx hb hts (by decide +kernel) hown hK hP 0 rfl rfl 4 (by decide) (hts (.fieldLink RX16 25 "NestprintModel" "typed" "Ljava/lang/String;") (by decide +kernel)) (fun _ h9 => h9) rfl dX16_houseTold_72 ?_
  have hPc := hP.sub (ws' := []) [] rfl
  have hDc := hD.sub (ws' := []) [] (by decide) rfl
  have hKc := hK.sub (tys' := []) [] rfl
  have hFc := va_free (wc := []) hD hS hA [] rfl
  refine va_calli (va_runV (As := []) (rest := [.int 3, .ref q3, .ref q3]) ⟨hx, hb, hml, hown, hts⟩ (kJ0_length_8abf5 l dC dI g H.size  ) (cwV 0 hts gX16_houseTold_J0_length_8abf5 rfl rfl rfl (by decide +kernel) ⟨Nat.le_of_ble_eq_true rfl, Nat.le_of_ble_eq_true rfl⟩) ⟨fun a U gg mk q => by obtain ⟨q0, q1, qP, qK, qD, qF⟩ := q; exact ⟨q0, q1, qP, va_K.moved (u := U) (U := U.calling gg mk a) (Vm.Alike.refl U.vm) qK, qD, ns_same qF⟩, va_Orecv (ns_f37 hF) hS, fun U hU hW => ⟨rfl, by rw [hU], by rw [hU]; exact hPc, va_K.moved hW.alike hKc, hDc.weaken (fun _ _ _ _ => trivial), ns_call hF hS hFc hU hW⟩⟩ rfl rfl hl.1 rfl (lv_room (Nat.le_of_ble_eq_true rfl)) dX16_houseTold_75 ⟨Nat.le_of_ble_eq_true rfl, Nat.le_of_ble_eq_true rfl⟩) hS (fun q _ h => hFc q h) hFc (fun r9 u t H1 locs ht hvm hw hB hz1 hk1 hS => ?_)
  obtain rfl := hw
  obtain ⟨hP1, hK1, hD1⟩ := hB
  rw [ht] at hP1
  have hK1 := va_K.moved hvm.symm hK1
  obtain ⟨hP, hD⟩ := va_join (wr := [(h0, .inr (23, [v0, .ref h1, .int 20, .int 60, .ref (g 34), v1, .int 0, .int 0, .int 0])), (q1, .inr (5, [.int 0, .int (-1), .int 0, .ref h1])), (q3, .inl (cyq3, 8, .inl (upd (upd (upd (fun _ => 0) 0 0) 1 20) 2 60))), (h1, .inr (6, [.int 0, v2, .int 0]))]) (w1 := []) hP hD [] [0, 1, 2, 3] rfl rfl (by decide) (by decide) hk1 hFc hP1 hD1
  have hK := (hK.sub (tys' := [(cyq3, .int)]) [0] rfl).app hK1
  generalize H1 = H at hP hS ⊢
  have hP : va_P (dC, dI) vwCl [(h0, .inr (23, [v0, .ref h1, .int 20, .int 60, .ref (g 34), v1, .int 0, .int 0, .int 0])), (q1, .inr (5, [.int 0, .int (-1), .int 0, .ref h1])), (q3, .inl (cyq3, 8, .inl (upd (upd (upd (fun _ => 0) 0 0) 1 20) 2 60))), (h1, .inr (6, [.int 0, v2, .int 0]))] H := hP
  have hD : va_D A [(h0, .inr (23, [v0, .ref h1, .int 20, .int 60, .ref (g 34), v1, .int 0, .int 0, .int 0])), (q1, .inr (5, [.int 0, .int (-1), .int 0, .ref h1])), (q3, .inl (cyq3, 8, .inl (upd (upd (upd (fun _ => 0) 0 0) 1 20) 2 60))), (h1, .inr (6, [.int 0, v2, .int 0]))] := hD
  have hK : va_K (dC, dI) vwCl [(cyq3, .int)] s := hK
  refine W.widen (k := 2) (n := 12) (Nat.le_of_ble_eq_true rfl) (Nat.le_of_ble_eq_true rfl) ?_
  refine va_iast hx hb hK hP hD hS 2 0 rfl rfl (vp_in_nI (n := 3) (by decide) (by decide)) dX16_houseTold_78 (fun H locs hP hD hS => ?_)
  have hP : va_P (dC, dI) vwCl [(h0, .inr (23, [v0, .ref h1, .int 20, .int 60, .ref (g 34), v1, .int 0, .int 0, .int 0])), (q1, .inr (5, [.int 0, .int (-1), .int 0, .ref h1])), (q3, .inl (cyq3, 8, .inl (upd (upd (upd (upd (fun _ => 0) 0 0) 1 20) 2 60) 3 0))), (h1, .inr (6, [.int 0, v2, .int 0]))] H := hP
  have hD : va_D A [(h0, .inr (23, [v0, .ref h1, .int 20, .int 60, .ref (g 34), v1, .int 0, .int 0, .int 0])), (q1, .inr (5, [.int 0, .int (-1), .int 0, .ref h1])), (q3, .inl (cyq3, 8, .inl (upd (upd (upd (upd (fun _ => 0) 0 0) 1 20) 2 60) 3 0))), (h1, .inr (6, [.int 0, v2, .int 0]))] := hD
  refine lv_dup hx hb dX16_houseTold_79 rfl ?_
  refine lv_iconst (v := 4) hx hb dX16_houseTold_80 (by decide) ?_
  refine lv_aload_n hx hb dX16_houseTold_81 rfl (lv_at hl 2 rfl) ?_
  refine va_get (D := (dC, dI)) (ci := 23) (v := .int 0) (C := RX16) (T := TX16) (N := 9) hx hb hts (by decide +kernel) hown hK hP 0 rfl rfl 6 (by decide) (hts (.fieldLink RX16 272 "NestprintModel" "counted" "I") (by decide +kernel)) (fun _ h9 => h9) rfl dX16_houseTold_82 ?_
  refine va_iast hx hb hK hP hD hS 2 0 rfl rfl (vp_in_nI (n := 4) (by decide) (by decide)) dX16_houseTold_85 (fun H locs hP hD hS => ?_)
  have hP : va_P (dC, dI) vwCl [(h0, .inr (23, [v0, .ref h1, .int 20, .int 60, .ref (g 34), v1, .int 0, .int 0, .int 0])), (q1, .inr (5, [.int 0, .int (-1), .int 0, .ref h1])), (q3, .inl (cyq3, 8, .inl (upd (upd (upd (upd (upd (fun _ => 0) 0 0) 1 20) 2 60) 3 0) 4 0))), (h1, .inr (6, [.int 0, v2, .int 0]))] H := hP
  have hD : va_D A [(h0, .inr (23, [v0, .ref h1, .int 20, .int 60, .ref (g 34), v1, .int 0, .int 0, .int 0])), (q1, .inr (5, [.int 0, .int (-1), .int 0, .ref h1])), (q3, .inl (cyq3, 8, .inl (upd (upd (upd (upd (upd (fun _ => 0) 0 0) 1 20) 2 60) 3 0) 4 0))), (h1, .inr (6, [.int 0, v2, .int 0]))] := hD
  refine lv_dup hx hb dX16_houseTold_86 rfl ?_
  refine lv_iconst (v := 5) hx hb dX16_houseTold_87 (by decide) ?_
  refine lv_aload_n hx hb dX16_houseTold_88 rfl (lv_at hl 2 rfl) ?_
  refine va_get (D := (dC, dI)) (ci := 23) (v := .int 0) (C := RX16) (T := TX16) (N := 9) hx hb hts (by decide +kernel) hown hK hP 0 rfl rfl 7 (by decide) (hts (.fieldLink RX16 275 "NestprintModel" "knocks" "I") (by decide +kernel)) (fun _ h9 => h9) rfl dX16_houseTold_89 ?_
  refine va_iast hx hb hK hP hD hS 2 0 rfl rfl (vp_in_nI (n := 5) (by decide) (by decide)) dX16_houseTold_92 (fun H locs hP hD hS => ?_)
  have hP : va_P (dC, dI) vwCl [(h0, .inr (23, [v0, .ref h1, .int 20, .int 60, .ref (g 34), v1, .int 0, .int 0, .int 0])), (q1, .inr (5, [.int 0, .int (-1), .int 0, .ref h1])), (q3, .inl (cyq3, 8, .inl (upd (upd (upd (upd (upd (upd (fun _ => 0) 0 0) 1 20) 2 60) 3 0) 4 0) 5 0))), (h1, .inr (6, [.int 0, v2, .int 0]))] H := hP
  have hD : va_D A [(h0, .inr (23, [v0, .ref h1, .int 20, .int 60, .ref (g 34), v1, .int 0, .int 0, .int 0])), (q1, .inr (5, [.int 0, .int (-1), .int 0, .ref h1])), (q3, .inl (cyq3, 8, .inl (upd (upd (upd (upd (upd (upd (fun _ => 0) 0 0) 1 20) 2 60) 3 0) 4 0) 5 0))), (h1, .inr (6, [.int 0, v2, .int 0]))] := hD
  refine lv_dup hx hb dX16_houseTold_93 rfl ?_
  refine lv_bipush (v := 6) hx hb dX16_houseTold_94 (by decide) ?_
  refine lv_aload_n hx hb dX16_houseTold_96 rfl (lv_at hl 2 rfl) ?_
  refine va_get (D := (dC, dI)) (ci := 23) (v := .int 0) (C := RX16) (T := TX16) (N := 9) hx hb hts (by decide +kernel) hown hK hP 0 rfl rfl 8 (by decide) (hts (.fieldLink RX16 193 "NestprintModel" "ever" "I") (by decide +kernel)) (fun _ h9 => h9) rfl dX16_houseTold_97 ?_
  refine va_iast hx hb hK hP hD hS 2 0 rfl rfl (vp_in_nI (n := 6) (by decide) (by decide)) dX16_houseTold_100 (fun H locs hP hD hS => ?_)
  have hP : va_P (dC, dI) vwCl [(h0, .inr (23, [v0, .ref h1, .int 20, .int 60, .ref (g 34), v1, .int 0, .int 0, .int 0])), (q1, .inr (5, [.int 0, .int (-1), .int 0, .ref h1])), (q3, .inl (cyq3, 8, .inl (upd (upd (upd (upd (upd (upd (upd (fun _ => 0) 0 0) 1 20) 2 60) 3 0) 4 0) 5 0) 6 0))), (h1, .inr (6, [.int 0, v2, .int 0]))] H := hP
  have hD : va_D A [(h0, .inr (23, [v0, .ref h1, .int 20, .int 60, .ref (g 34), v1, .int 0, .int 0, .int 0])), (q1, .inr (5, [.int 0, .int (-1), .int 0, .ref h1])), (q3, .inl (cyq3, 8, .inl (upd (upd (upd (upd (upd (upd (upd (fun _ => 0) 0 0) 1 20) 2 60) 3 0) 4 0) 5 0) 6 0))), (h1, .inr (6, [.int 0, v2, .int 0]))] := hD
  refine lv_dup hx hb dX16_houseTold_101 rfl ?_
  refine lv_bipush (v := 7) hx hb dX16_houseTold_102 (by decide) ?_
  refine lv_iload_n hx hb dX16_houseTold_104 rfl (lv_at hl 1 rfl) ?_
  refine va_iast hx hb hK hP hD hS 2 0 rfl rfl (vp_in_nI (n := 7) (by decide) (by decide)) dX16_houseTold_105 (fun H locs hP hD hS => ?_)
  have hP : va_P (dC, dI) vwCl [(h0, .inr (23, [v0, .ref h1, .int 20, .int 60, .ref (g 34), v1, .int 0, .int 0, .int 0])), (q1, .inr (5, [.int 0, .int (-1), .int 0, .ref h1])), (q3, .inl (cyq3, 8, .inl (upd (upd (upd (upd (upd (upd (upd (upd (fun _ => 0) 0 0) 1 20) 2 60) 3 0) 4 0) 5 0) 6 0) 7 0))), (h1, .inr (6, [.int 0, v2, .int 0]))] H := hP
  have hD : va_D A [(h0, .inr (23, [v0, .ref h1, .int 20, .int 60, .ref (g 34), v1, .int 0, .int 0, .int 0])), (q1, .inr (5, [.int 0, .int (-1), .int 0, .ref h1])), (q3, .inl (cyq3, 8, .inl (upd (upd (upd (upd (upd (upd (upd (upd (fun _ => 0) 0 0) 1 20) 2 60) 3 0) 4 0) 5 0) 6 0) 7 0))), (h1, .inr (6, [.int 0, v2, .int 0]))] := hD
  refine lv_astore_n (lv' := [(3, .ref q3), (2, .int 0), (0, .ref h0), (1, .int 6)]) hx hb dX16_houseTold_106 rfl hl (by decide) rfl (fun ls hl => ?_)
  refine lv_aload_n hx hb dX16_houseTold_107 rfl (lv_at hl 0 rfl) ?_
  refine lv_iload_n hx hb dX16_houseTold_108 rfl (lv_at hl 3 rfl) ?_
  refine va_iald hx hb hK hP 2 0 rfl rfl (vp_in_nI (n := 6) (by decide) (by decide)) dX16_houseTold_109 ?_
  refine lv_topi (fun y4 ey4 => ?_)
  obtain rfl : y4 = 0 := ey4
  have hP9 := hP.sub (ws' := [(h0, .inr (23, [v0, .ref h1, .int 20, .int 60, .ref (g 34), v1, .int 0, .int 0, .int 0])), (q1, .inr (5, [.int 0, .int (-1), .int 0, .ref h1])), (q3, .inl (cyq3, 8, .inl (upd (upd (upd (upd (upd (upd (upd (upd (fun _ => 0) 0 0) 1 20) 2 60) 3 0) 4 0) 5 0) 6 0) 7 0))), (h1, .inr (6, [.int 0, v2, .int 0]))]) [0, 1, 2, 3] rfl
  have hD9 := hD.sub (ws' := [(h0, .inr (23, [v0, .ref h1, .int 20, .int 60, .ref (g 34), v1, .int 0, .int 0, .int 0])), (q1, .inr (5, [.int 0, .int (-1), .int 0, .ref h1])), (q3, .inl (cyq3, 8, .inl (upd (upd (upd (upd (upd (upd (upd (upd (fun _ => 0) 0 0) 1 20) 2 60) 3 0) 4 0) 5 0) 6 0) 7 0))), (h1, .inr (6, [.int 0, v2, .int 0]))]) [0, 1, 2, 3] (by decide) rfl
  have hK9 := hK.sub (tys' := [(cyq3, .int)]) [0] rfl
  refine W.widen (k := 2) (n := 12) (Nat.le_of_ble_eq_true rfl) (Nat.le_of_ble_eq_true rfl) ?_
  exact W.iret (v := 0) hx hb hr (fun t ht hW => ⟨⟨_, (), rfl, rfl, q1, q3, cyq3, by rw [ht]; exact hP9, va_K.moved hW.alike hK9, hD9⟩, hS.F ht⟩) hS.2.2 dX16_houseTold_110
set_option maxHeartbeats 4000000 in
set_option maxRecDepth 100000 in
theorem kX16_house_8 (l : Launch) (dC : Nat → ClassId) (dI : Nat → Nat → Nat) (g : Nat → Nat) (sz : Nat) (h0 : Nat) (h1 : Nat) (v0 : Value) (v1 : Value) (v2 : Value) : Met l yX16_house wsX16_house ({ frames := 4, cells := 2, slots := 12, locals := 77 }) (va_Pc [.ref h0, .int 6] (fun U => U.heap.size = sz ∧ va_P (dC, dI) vwCl [(h0, .inr (23, [v0, .ref h1, .int 20, .int 60, .ref (g 34), v1, .int 0, .int 0, .int 0])), (h1, .inr (6, [.int 0, v2, .int 0]))] U.heap ∧ va_K (dC, dI) vwCl [] U ∧ va_D (fun _ => True) [(h0, .inr (23, [v0, .ref h1, .int 20, .int 60, .ref (g 34), v1, .int 0, .int 0, .int 0])), (h1, .inr (6, [.int 0, v2, .int 0]))] ∧ ns_F g (va_A [(h0, .inr (23, [v0, .ref h1, .int 20, .int 60, .ref (g 34), v1, .int 0, .int 0, .int 0])), (h1, .inr (6, [.int 0, v2, .int 0]))] sz) U U.heap)) (va_Qi (fun (r : Int32) (_ : Unit) => r = 0) (fun _ t => ∃ k0 : Nat, ∃ k1 : Nat, ∃ kc2 : ClassId, va_P (dC, dI) vwCl [(h0, .inr (23, [.int 0, .ref h1, .int 20, .int 60, .ref (g 34), v1, .int 0, .int 0, .int 0])), (k0, .inr (5, [.int 0, .int (-1), .int 0, .ref h1])), (k1, .inl (kc2, 8, .inl (upd (upd (upd (upd (upd (upd (upd (upd (fun _ => 0) 0 0) 1 20) 2 60) 3 0) 4 0) 5 0) 6 0) 7 0))), (h1, .inr (6, [.int 0, v2, .int 0]))] t.heap ∧ va_K (dC, dI) vwCl [(kc2, .int)] t ∧ va_D (va_A [(h0, .inr (23, [v0, .ref h1, .int 20, .int 60, .ref (g 34), v1, .int 0, .int 0, .int 0])), (h1, .inr (6, [.int 0, v2, .int 0]))] sz) [(h0, .inr (23, [.int 0, .ref h1, .int 20, .int 60, .ref (g 34), v1, .int 0, .int 0, .int 0])), (k0, .inr (5, [.int 0, .int (-1), .int 0, .ref h1])), (k1, .inl (kc2, 8, .inl (upd (upd (upd (upd (upd (upd (upd (upd (fun _ => 0) 0 0) 1 20) 2 60) 3 0) 4 0) 5 0) 6 0) 7 0))), (h1, .inr (6, [.int 0, v2, .int 0]))]) (va_A [(h0, .inr (23, [v0, .ref h1, .int 20, .int 60, .ref (g 34), v1, .int 0, .int 0, .int 0])), (h1, .inr (6, [.int 0, v2, .int 0]))] sz)) 2 12 (va_A [(h0, .inr (23, [v0, .ref h1, .int 20, .int 60, .ref (g 34), v1, .int 0, .int 0, .int 0])), (h1, .inr (6, [.int 0, v2, .int 0]))] sz) := by
  refine Met.ofW (cc := cX16_house) (maxL := 2) (ret := (some .int)) (by decide) rfl ?_
  intro p e s m args below meth c s₁ B hml hv
  obtain ⟨rfl, hsz, hP, hK, hD0, hF⟩ := hv
  have hx := B.exec
  have hb := B.bytes
  have hr := B.returns
  have hts := atoms_spec (ws := wsX16_house) B.pre
  have hown : s.vm.findClass RX16 = some m.cls := findClass_of_methodNamed B.named
  have hlocks := B.notSynchronized
  subst hsz
  have hD := hD0.self (sz := s.heap.size)
  generalize hAe : va_A [(h0, .inr (23, [v0, .ref h1, .int 20, .int 60, .ref (g 34), v1, .int 0, .int 0, .int 0])), (h1, .inr (6, [.int 0, v2, .int 0]))] s.heap.size = A at hD hF ⊢
  have hA : ∀ q : Nat, s.heap.size ≤ q → A q := fun q h => by rw [← hAe]; exact Or.inr h
  have hS : va_S A s.heap s.heap [] := va_S.rf
  have hP : va_P (dC, dI) vwCl [(h0, .inr (23, [v0, .ref h1, .int 20, .int 60, .ref (g 34), v1, .int 0, .int 0, .int 0])), (h1, .inr (6, [.int 0, v2, .int 0]))] s.heap := hP
  have hl := lv_entry ([.ref h0, .int 6]) (n := 2) (Nat.le_of_ble_eq_true rfl)
  rw [lg_entry_eq]
  generalize (lg_sl ([.ref h0, .int 6]) ++ List.replicate (2 - (lg_sl ([.ref h0, .int 6])).length) Slot.unset).toArray = ls at hl ⊢
  have hl : lv_has ls 2 [(0, .ref h0), (1, .int 6)] := hl
  refine lv_aload_n hx hb dX16_house_0 rfl (lv_at hl 0 rfl) ?_
  refine lv_iload_n hx hb dX16_house_1 rfl (lv_at hl 1 rfl) ?_
  refine lv_iconst (v := 0) hx hb dX16_house_2 (by decide) ?_
  refine lv_bipush (v := 7) hx hb dX16_house_3 (by decide) ?_
  have hPc := hP.sub (ws' := []) [] rfl
  have hDc := hD.sub (ws' := []) [] (by decide) rfl
  have hKc := hK.sub (tys' := []) [] rfl
  have hFc := va_free (wc := []) hD hS hA [] rfl
  refine va_calli (va_runS (As := [.int 6, .int 0, .int 7]) (rest := [.ref h0]) ⟨hx, hb, hml, hown, hts⟩ (kX16_isIn_22 l dC dI g s.heap.size  ) (va_cwS 3 hts gX16_house_X16_isIn rfl rfl rfl (by decide +kernel) ⟨Nat.le_of_ble_eq_true rfl, Nat.le_of_ble_eq_true rfl⟩) ⟨fun a U gg mk q => by obtain ⟨q0, q1, qP, qK, qD, qF⟩ := q; exact ⟨q0, q1, qP, va_K.moved (u := U) (U := U.calling gg mk a) (Vm.Alike.refl U.vm) qK, qD, ns_same qF⟩, fun U hU hW => ⟨rfl, by rw [hU], by rw [hU]; exact hPc, va_K.moved hW.alike hKc, hDc.weaken (fun _ _ _ _ => trivial), ns_call hF hS hFc hU hW⟩⟩ rfl rfl hl.1 rfl (lv_room (Nat.le_of_ble_eq_true rfl)) dX16_house_5 ⟨Nat.le_of_ble_eq_true rfl, Nat.le_of_ble_eq_true rfl⟩) hS (fun q _ h => hFc q h) hFc (fun r9 u t H1 locs ht hvm hw hB hz1 hk1 hS => ?_)
  obtain rfl := hw
  obtain ⟨hP1, hK1, hD1⟩ := hB
  rw [ht] at hP1
  have hK1 := va_K.moved hvm.symm hK1
  obtain ⟨hP, hD⟩ := va_join (wr := [(h0, .inr (23, [v0, .ref h1, .int 20, .int 60, .ref (g 34), v1, .int 0, .int 0, .int 0])), (h1, .inr (6, [.int 0, v2, .int 0]))]) (w1 := []) hP hD [] [0, 1] rfl rfl (by decide) (by decide) hk1 hFc hP1 hD1
  have hK := (hK.sub (tys' := []) [] rfl).app hK1
  generalize H1 = H at hP hS ⊢
  have hP : va_P (dC, dI) vwCl [(h0, .inr (23, [v0, .ref h1, .int 20, .int 60, .ref (g 34), v1, .int 0, .int 0, .int 0])), (h1, .inr (6, [.int 0, v2, .int 0]))] H := hP
  have hD : va_D A [(h0, .inr (23, [v0, .ref h1, .int 20, .int 60, .ref (g 34), v1, .int 0, .int 0, .int 0])), (h1, .inr (6, [.int 0, v2, .int 0]))] := hD
  have hK : va_K (dC, dI) vwCl [] s := hK
  refine W.widen (k := 0) (n := 0) (Nat.le_of_ble_eq_true rfl) (Nat.le_of_ble_eq_true rfl) ?_
  refine lv_if_ne (tgt := 15) hx hb dX16_house_8 (by decide) (fun c1 => ?_) (fun c1 => absurd c1 (by decide))
  refine lv_iconst (v := 0) hx hb dX16_house_15 (by decide) ?_
  refine lv_iconst (v := 1) hx hb dX16_house_16 (by decide) ?_
  have hPc := hP.sub (ws' := [(h0, .inr (23, [v0, .ref h1, .int 20, .int 60, .ref (g 34), v1, .int 0, .int 0, .int 0]))]) [0] rfl
  have hDc := hD.sub (ws' := [(h0, .inr (23, [v0, .ref h1, .int 20, .int 60, .ref (g 34), v1, .int 0, .int 0, .int 0]))]) [0] (by decide) rfl
  have hKc := hK.sub (tys' := []) [] rfl
  have hFc := va_free (wc := [(h0, .inr (23, [v0, .ref h1, .int 20, .int 60, .ref (g 34), v1, .int 0, .int 0, .int 0]))]) hD hS hA [0] rfl
  refine va_calli (va_runV (As := [.int 0, .int 1]) (rest := []) ⟨hx, hb, hml, hown, hts⟩ (kX16_start_2 l dC dI g H.size h0 v0 (.ref h1) (.int 20) (.int 60) (.ref (g 34)) v1 (.int 0) (.int 0) (.int 0) ) (cwV 2 hts gX16_house_X16_start rfl rfl rfl (by decide +kernel) ⟨Nat.le_of_ble_eq_true rfl, Nat.le_of_ble_eq_true rfl⟩) ⟨fun a U gg mk q => by obtain ⟨q0, q1, qP, qK, qD, qF⟩ := q; exact ⟨q0, q1, qP, va_K.moved (u := U) (U := U.calling gg mk a) (Vm.Alike.refl U.vm) qK, qD, ns_same qF⟩, va_recv hK hP (ci := 23) (q0 := 0) rfl rfl, fun U hU hW => ⟨rfl, by rw [hU], by rw [hU]; exact hPc, va_K.moved hW.alike hKc, hDc.weaken (fun _ _ _ _ => trivial), ns_call hF hS hFc hU hW⟩⟩ rfl rfl hl.1 rfl (lv_room (Nat.le_of_ble_eq_true rfl)) dX16_house_17 ⟨Nat.le_of_ble_eq_true rfl, Nat.le_of_ble_eq_true rfl⟩) hS (fun q _ h => hFc q h) hFc (fun r9 u t H1 locs ht hvm hw hB hz1 hk1 hS => ?_)
  obtain rfl := hw
  obtain ⟨hP1, hK1, hD1⟩ := hB
  rw [ht] at hP1
  have hK1 := va_K.moved hvm.symm hK1
  obtain ⟨hP, hD⟩ := va_join (wr := [(h1, .inr (6, [.int 0, v2, .int 0]))]) (w1 := [(h0, .inr (23, [.int 0, .ref h1, .int 20, .int 60, .ref (g 34), v1, .int 0, .int 0, .int 0]))]) hP hD [0] [1] rfl rfl (by decide) (by decide) hk1 hFc hP1 hD1
  have hK := (hK.sub (tys' := []) [] rfl).app hK1
  generalize H1 = H at hP hS ⊢
  have hP : va_P (dC, dI) vwCl [(h1, .inr (6, [.int 0, v2, .int 0])), (h0, .inr (23, [.int 0, .ref h1, .int 20, .int 60, .ref (g 34), v1, .int 0, .int 0, .int 0]))] H := hP
  have hD : va_D A [(h1, .inr (6, [.int 0, v2, .int 0])), (h0, .inr (23, [.int 0, .ref h1, .int 20, .int 60, .ref (g 34), v1, .int 0, .int 0, .int 0]))] := hD
  have hK : va_K (dC, dI) vwCl [] s := hK
  refine W.widen (k := 0) (n := 0) (Nat.le_of_ble_eq_true rfl) (Nat.le_of_ble_eq_true rfl) ?_
  refine lv_if_eq (tgt := 27) hx hb dX16_house_20 (by decide) (fun c2 => ?_) (fun c2 => absurd (by decide) c2)
  refine lv_aload_n hx hb dX16_house_27 rfl (lv_at hl 0 rfl) ?_
  refine lv_iload_n hx hb dX16_house_28 rfl (lv_at hl 1 rfl) ?_
  have hPc := hP.sub (ws' := [(h0, .inr (23, [.int 0, .ref h1, .int 20, .int 60, .ref (g 34), v1, .int 0, .int 0, .int 0])), (h1, .inr (6, [.int 0, v2, .int 0]))]) [1, 0] rfl
  have hDc := hD.sub (ws' := [(h0, .inr (23, [.int 0, .ref h1, .int 20, .int 60, .ref (g 34), v1, .int 0, .int 0, .int 0])), (h1, .inr (6, [.int 0, v2, .int 0]))]) [1, 0] (by decide) rfl
  have hKc := hK.sub (tys' := []) [] rfl
  have hFc := va_free (wc := [(h0, .inr (23, [.int 0, .ref h1, .int 20, .int 60, .ref (g 34), v1, .int 0, .int 0, .int 0])), (h1, .inr (6, [.int 0, v2, .int 0]))]) hD hS hA [1, 0] rfl
  refine va_calli (va_runV (As := [.int 6]) (rest := []) ⟨hx, hb, hml, hown, hts⟩ (kX16_houseTold_7 l dC dI g H.size h0 h1 (.int 0) v1 v2 ) (cwV 1 hts gX16_house_X16_houseTold rfl rfl rfl (by decide +kernel) ⟨Nat.le_of_ble_eq_true rfl, Nat.le_of_ble_eq_true rfl⟩) ⟨fun a U gg mk q => by obtain ⟨q0, q1, qP, qK, qD, qF⟩ := q; exact ⟨q0, q1, qP, va_K.moved (u := U) (U := U.calling gg mk a) (Vm.Alike.refl U.vm) qK, qD, ns_same qF⟩, va_recv hK hP (ci := 23) (q0 := 1) rfl rfl, fun U hU hW => ⟨rfl, by rw [hU], by rw [hU]; exact hPc, va_K.moved hW.alike hKc, hDc.weaken (fun _ _ _ _ => trivial), ns_call hF hS hFc hU hW⟩⟩ rfl rfl hl.1 rfl (lv_room (Nat.le_of_ble_eq_true rfl)) dX16_house_29 ⟨Nat.le_of_ble_eq_true rfl, Nat.le_of_ble_eq_true rfl⟩) hS (fun q _ h => hFc q h) hFc (fun r9 u t H1 locs ht hvm hw hB hz1 hk1 hS => ?_)
  obtain rfl := hw
  obtain ⟨q3, q4, cy5, hP1, hK1, hD1⟩ := hB
  rw [ht] at hP1
  have hK1 := va_K.moved hvm.symm hK1
  obtain ⟨hP, hD⟩ := va_join (wr := []) (w1 := [(h0, .inr (23, [.int 0, .ref h1, .int 20, .int 60, .ref (g 34), v1, .int 0, .int 0, .int 0])), (q3, .inr (5, [.int 0, .int (-1), .int 0, .ref h1])), (q4, .inl (cy5, 8, .inl (upd (upd (upd (upd (upd (upd (upd (upd (fun _ => 0) 0 0) 1 20) 2 60) 3 0) 4 0) 5 0) 6 0) 7 0))), (h1, .inr (6, [.int 0, v2, .int 0]))]) hP hD [1, 0] [] rfl rfl (by decide) (by decide) hk1 hFc hP1 hD1
  have hK := (hK.sub (tys' := []) [] rfl).app hK1
  generalize H1 = H at hP hS ⊢
  have hP : va_P (dC, dI) vwCl [(h0, .inr (23, [.int 0, .ref h1, .int 20, .int 60, .ref (g 34), v1, .int 0, .int 0, .int 0])), (q3, .inr (5, [.int 0, .int (-1), .int 0, .ref h1])), (q4, .inl (cy5, 8, .inl (upd (upd (upd (upd (upd (upd (upd (upd (fun _ => 0) 0 0) 1 20) 2 60) 3 0) 4 0) 5 0) 6 0) 7 0))), (h1, .inr (6, [.int 0, v2, .int 0]))] H := hP
  have hD : va_D A [(h0, .inr (23, [.int 0, .ref h1, .int 20, .int 60, .ref (g 34), v1, .int 0, .int 0, .int 0])), (q3, .inr (5, [.int 0, .int (-1), .int 0, .ref h1])), (q4, .inl (cy5, 8, .inl (upd (upd (upd (upd (upd (upd (upd (upd (fun _ => 0) 0 0) 1 20) 2 60) 3 0) 4 0) 5 0) 6 0) 7 0))), (h1, .inr (6, [.int 0, v2, .int 0]))] := hD
  have hK : va_K (dC, dI) vwCl [(cy5, .int)] s := hK
  refine W.widen (k := 2) (n := 12) (Nat.le_of_ble_eq_true rfl) (Nat.le_of_ble_eq_true rfl) ?_
  have hP9 := hP.sub (ws' := [(h0, .inr (23, [.int 0, .ref h1, .int 20, .int 60, .ref (g 34), v1, .int 0, .int 0, .int 0])), (q3, .inr (5, [.int 0, .int (-1), .int 0, .ref h1])), (q4, .inl (cy5, 8, .inl (upd (upd (upd (upd (upd (upd (upd (upd (fun _ => 0) 0 0) 1 20) 2 60) 3 0) 4 0) 5 0) 6 0) 7 0))), (h1, .inr (6, [.int 0, v2, .int 0]))]) [0, 1, 2, 3] rfl
  have hD9 := hD.sub (ws' := [(h0, .inr (23, [.int 0, .ref h1, .int 20, .int 60, .ref (g 34), v1, .int 0, .int 0, .int 0])), (q3, .inr (5, [.int 0, .int (-1), .int 0, .ref h1])), (q4, .inl (cy5, 8, .inl (upd (upd (upd (upd (upd (upd (upd (upd (fun _ => 0) 0 0) 1 20) 2 60) 3 0) 4 0) 5 0) 6 0) 7 0))), (h1, .inr (6, [.int 0, v2, .int 0]))]) [0, 1, 2, 3] (by decide) rfl
  have hK9 := hK.sub (tys' := [(cy5, .int)]) [0] rfl
  refine W.widen (k := 2) (n := 12) (Nat.le_of_ble_eq_true rfl) (Nat.le_of_ble_eq_true rfl) ?_
  exact W.iret (v := 0) hx hb hr (fun t ht hW => ⟨⟨_, (), rfl, rfl, q3, q4, cy5, by rw [ht]; exact hP9, va_K.moved hW.alike hK9, hD9⟩, hS.F ht⟩) hS.2.2 dX16_house_32
set_option maxHeartbeats 4000000 in
set_option maxRecDepth 100000 in
theorem kX3_weightOfAll (l : Launch) (dC : Nat → ClassId) (dI : Nat → Nat → Nat) (g : Nat → Nat) (sz : Nat) (h0 : Nat) (h1 : Nat) (v0 : Value) (v1 : Value) (v2 : Value) (v3 : Value) (v4 : Value) (v5 : Value) (v6 : Value) (v7 : Value) (v8 : Value) : Met l yX3_weightOfAll wsX3_weightOfAll ({ frames := 1, cells := 0, slots := 0, locals := 20 }) (va_Pc [.ref h0] (fun U => U.heap.size = sz ∧ va_P (dC, dI) vwCl [(h0, .inr (10, [.ref h1, v0, v1, v2, v3, v4, v5, v6, v7])), (h1, .inr (11, [v8, .int 0]))] U.heap ∧ va_K (dC, dI) vwCl [] U ∧ va_D (fun _ => True) [(h0, .inr (10, [.ref h1, v0, v1, v2, v3, v4, v5, v6, v7])), (h1, .inr (11, [v8, .int 0]))] ∧ ns_F g (va_A [(h0, .inr (10, [.ref h1, v0, v1, v2, v3, v4, v5, v6, v7])), (h1, .inr (11, [v8, .int 0]))] sz) U U.heap)) (va_Qi (fun (r : Int32) (_ : Unit) => r = 0) (fun _ t => va_P (dC, dI) vwCl [(h0, .inr (10, [.ref h1, v0, v1, v2, v3, v4, v5, v6, v7])), (h1, .inr (11, [v8, .int 0]))] t.heap ∧ va_K (dC, dI) vwCl [] t ∧ va_D (va_A [(h0, .inr (10, [.ref h1, v0, v1, v2, v3, v4, v5, v6, v7])), (h1, .inr (11, [v8, .int 0]))] sz) [(h0, .inr (10, [.ref h1, v0, v1, v2, v3, v4, v5, v6, v7])), (h1, .inr (11, [v8, .int 0]))]) (va_A [(h0, .inr (10, [.ref h1, v0, v1, v2, v3, v4, v5, v6, v7])), (h1, .inr (11, [v8, .int 0]))] sz)) 0 0 (va_A [(h0, .inr (10, [.ref h1, v0, v1, v2, v3, v4, v5, v6, v7])), (h1, .inr (11, [v8, .int 0]))] sz) := by
  refine Met.ofW (cc := cX3_weightOfAll) (maxL := 3) (ret := (some .int)) (by decide) rfl ?_
  intro p e s m args below meth c s₁ B hml hv
  obtain ⟨rfl, hsz, hP, hK, hD0, hF⟩ := hv
  have hx := B.exec
  have hb := B.bytes
  have hr := B.returns
  have hts := atoms_spec (ws := wsX3_weightOfAll) B.pre
  have hown : s.vm.findClass RX3 = some m.cls := findClass_of_methodNamed B.named
  have hlocks := B.notSynchronized
  subst hsz
  have hD := hD0.self (sz := s.heap.size)
  generalize hAe : va_A [(h0, .inr (10, [.ref h1, v0, v1, v2, v3, v4, v5, v6, v7])), (h1, .inr (11, [v8, .int 0]))] s.heap.size = A at hD hF ⊢
  have hA : ∀ q : Nat, s.heap.size ≤ q → A q := fun q h => by rw [← hAe]; exact Or.inr h
  have hS : va_S A s.heap s.heap [] := va_S.rf
  have hP : va_P (dC, dI) vwCl [(h0, .inr (10, [.ref h1, v0, v1, v2, v3, v4, v5, v6, v7])), (h1, .inr (11, [v8, .int 0]))] s.heap := hP
  have hl := lv_entry ([.ref h0]) (n := 3) (Nat.le_of_ble_eq_true rfl)
  rw [lg_entry_eq]
  generalize (lg_sl ([.ref h0]) ++ List.replicate (3 - (lg_sl ([.ref h0])).length) Slot.unset).toArray = ls at hl ⊢
  have hl : lv_has ls 3 [(0, .ref h0)] := hl
  refine lv_iconst (v := 0) hx hb dX3_weightOfAll_0 (by decide) ?_
  refine lv_istore_n (lv' := [(1, .int 0), (0, .ref h0)]) hx hb dX3_weightOfAll_1 rfl hl (by decide) rfl (fun ls hl => ?_)
  refine lv_iconst (v := 0) hx hb dX3_weightOfAll_2 (by decide) ?_
  refine lv_istore_n (lv' := [(2, .int 0), (1, .int 0), (0, .ref h0)]) hx hb dX3_weightOfAll_3 rfl hl (by decide) rfl (fun ls hl => ?_)
  refine lv_iload_n hx hb dX3_weightOfAll_4 rfl (lv_at hl 0 rfl) ?_
  refine lv_aload_n hx hb dX3_weightOfAll_5 rfl (lv_at hl 2 rfl) ?_
  refine va_get (D := (dC, dI)) (ci := 10) (v := .ref h1) (C := RX3) (T := TX3) (N := 9) hx hb hts (by decide +kernel) hown hK hP 0 rfl rfl 0 (by decide) (hts (.fieldLink RX3 14 "Nestprint$Nodes" "numbers" "LNestprint$Row;") (by decide +kernel)) (fun _ h9 => h9) rfl dX3_weightOfAll_6 ?_
  have hPc := hP.sub (ws' := [(h1, .inr (11, [v8, .int 0]))]) [1] rfl
  have hDc := hD.sub (ws' := [(h1, .inr (11, [v8, .int 0]))]) [1] (by decide) rfl
  have hKc := hK.sub (tys' := []) [] rfl
  have hFc := va_free (wc := [(h1, .inr (11, [v8, .int 0]))]) hD hS hA [1] rfl
  refine va_calli (va_runV (As := []) (rest := [.int 0]) ⟨hx, hb, hml, hown, hts⟩ (kX4_size l dC dI g s.heap.size h1 v8 ) (cwV 0 hts gX3_weightOfAll_X4_size rfl rfl rfl (by decide +kernel) ⟨Nat.le_of_ble_eq_true rfl, Nat.le_of_ble_eq_true rfl⟩) ⟨fun a U gg mk q => by obtain ⟨q0, q1, qP, qK, qD, qF⟩ := q; exact ⟨q0, q1, qP, va_K.moved (u := U) (U := U.calling gg mk a) (Vm.Alike.refl U.vm) qK, qD, ns_same qF⟩, va_recv hK hP (ci := 11) (q0 := 1) rfl rfl, fun U hU hW => ⟨rfl, by rw [hU], by rw [hU]; exact hPc, va_K.moved hW.alike hKc, hDc.weaken (fun _ _ _ _ => trivial), ns_call hF hS hFc hU hW⟩⟩ rfl rfl hl.1 rfl (lv_room (Nat.le_of_ble_eq_true rfl)) dX3_weightOfAll_9 ⟨Nat.le_of_ble_eq_true rfl, Nat.le_of_ble_eq_true rfl⟩) hS (fun q _ h => hFc q h) hFc (fun r9 u t H1 locs ht hvm hw hB hz1 hk1 hS => ?_)
  obtain rfl := hw
  obtain ⟨hP1, hK1, hD1⟩ := hB
  rw [ht] at hP1
  have hK1 := va_K.moved hvm.symm hK1
  obtain ⟨hP, hD⟩ := va_join (wr := [(h0, .inr (10, [.ref h1, v0, v1, v2, v3, v4, v5, v6, v7]))]) (w1 := [(h1, .inr (11, [v8, .int 0]))]) hP hD [1] [0] rfl rfl (by decide) (by decide) hk1 hFc hP1 hD1
  have hK := (hK.sub (tys' := []) [] rfl).app hK1
  generalize H1 = H at hP hS ⊢
  have hP : va_P (dC, dI) vwCl [(h0, .inr (10, [.ref h1, v0, v1, v2, v3, v4, v5, v6, v7])), (h1, .inr (11, [v8, .int 0]))] H := hP
  have hD : va_D A [(h0, .inr (10, [.ref h1, v0, v1, v2, v3, v4, v5, v6, v7])), (h1, .inr (11, [v8, .int 0]))] := hD
  have hK : va_K (dC, dI) vwCl [] s := hK
  refine W.widen (k := 0) (n := 0) (Nat.le_of_ble_eq_true rfl) (Nat.le_of_ble_eq_true rfl) ?_
  refine lv_icmp_ge (tgt := 29) hx hb dX3_weightOfAll_12 (by decide) (fun c1 => ?_) (fun c1 => absurd (by decide) c1)
  refine lv_iload_n hx hb dX3_weightOfAll_29 rfl (lv_at hl 1 rfl) ?_
  have hP9 := hP.sub (ws' := [(h0, .inr (10, [.ref h1, v0, v1, v2, v3, v4, v5, v6, v7])), (h1, .inr (11, [v8, .int 0]))]) [0, 1] rfl
  have hD9 := hD.sub (ws' := [(h0, .inr (10, [.ref h1, v0, v1, v2, v3, v4, v5, v6, v7])), (h1, .inr (11, [v8, .int 0]))]) [0, 1] (by decide) rfl
  have hK9 := hK.sub (tys' := []) [] rfl
  refine W.widen (k := 0) (n := 0) (Nat.le_of_ble_eq_true rfl) (Nat.le_of_ble_eq_true rfl) ?_
  exact W.iret (v := 0) hx hb hr (fun t ht hW => ⟨⟨_, (), rfl, rfl, by rw [ht]; exact hP9, va_K.moved hW.alike hK9, hD9⟩, hS.F ht⟩) hS.2.2 dX3_weightOfAll_30
set_option maxHeartbeats 4000000 in
set_option maxRecDepth 100000 in
theorem kX9_stateOf_8 (l : Launch) (dC : Nat → ClassId) (dI : Nat → Nat → Nat) (g : Nat → Nat) (sz : Nat) (h0 : Nat) (h1 : Nat) (h2 : Nat) (v0 : Value) (v1 : Value) (v2 : Value) (v3 : Value) (v4 : Value) (v5 : Value) (v6 : Value) (v7 : Value) (v8 : Value) (v9 : Value) (v10 : Value) (v11 : Value) (v12 : Value) (v13 : Value) (v14 : Value) (v15 : Value) (v16 : Value) (v17 : Value) (v18 : Value) (v19 : Value) (v20 : Value) (v21 : Value) (v22 : Value) (v23 : Value) : Met l yX9_stateOf wsX9_stateOf ({ frames := 2, cells := 0, slots := 0, locals := 42 }) (va_Pc [.ref h0, .int 7] (fun U => U.heap.size = sz ∧ va_P (dC, dI) vwCl [(h0, .inr (16, [.ref h1, v0, v1, v2, v3, v4, v5, v6, v7, v8, v9, v10, v11, v12, v13, v14])), (h1, .inr (10, [.ref h2, v15, v16, v17, v18, v19, v20, v21, v22])), (h2, .inr (11, [v23, .int 0]))] U.heap ∧ va_K (dC, dI) vwCl [] U ∧ va_D (fun _ => True) [(h0, .inr (16, [.ref h1, v0, v1, v2, v3, v4, v5, v6, v7, v8, v9, v10, v11, v12, v13, v14])), (h1, .inr (10, [.ref h2, v15, v16, v17, v18, v19, v20, v21, v22])), (h2, .inr (11, [v23, .int 0]))] ∧ ns_F g (va_A [(h0, .inr (16, [.ref h1, v0, v1, v2, v3, v4, v5, v6, v7, v8, v9, v10, v11, v12, v13, v14])), (h1, .inr (10, [.ref h2, v15, v16, v17, v18, v19, v20, v21, v22])), (h2, .inr (11, [v23, .int 0]))] sz) U U.heap)) (va_Qi (fun (r : Int32) (_ : Unit) => r = 0) (fun _ t => va_P (dC, dI) vwCl [(h0, .inr (16, [.ref h1, v0, v1, v2, v3, v4, v5, v6, v7, v8, v9, v10, v11, v12, v13, v14])), (h1, .inr (10, [.ref h2, v15, v16, v17, v18, v19, v20, v21, v22])), (h2, .inr (11, [v23, .int 0]))] t.heap ∧ va_K (dC, dI) vwCl [] t ∧ va_D (va_A [(h0, .inr (16, [.ref h1, v0, v1, v2, v3, v4, v5, v6, v7, v8, v9, v10, v11, v12, v13, v14])), (h1, .inr (10, [.ref h2, v15, v16, v17, v18, v19, v20, v21, v22])), (h2, .inr (11, [v23, .int 0]))] sz) [(h0, .inr (16, [.ref h1, v0, v1, v2, v3, v4, v5, v6, v7, v8, v9, v10, v11, v12, v13, v14])), (h1, .inr (10, [.ref h2, v15, v16, v17, v18, v19, v20, v21, v22])), (h2, .inr (11, [v23, .int 0]))]) (va_A [(h0, .inr (16, [.ref h1, v0, v1, v2, v3, v4, v5, v6, v7, v8, v9, v10, v11, v12, v13, v14])), (h1, .inr (10, [.ref h2, v15, v16, v17, v18, v19, v20, v21, v22])), (h2, .inr (11, [v23, .int 0]))] sz)) 0 0 (va_A [(h0, .inr (16, [.ref h1, v0, v1, v2, v3, v4, v5, v6, v7, v8, v9, v10, v11, v12, v13, v14])), (h1, .inr (10, [.ref h2, v15, v16, v17, v18, v19, v20, v21, v22])), (h2, .inr (11, [v23, .int 0]))] sz) := by
  refine Met.ofW (cc := cX9_stateOf) (maxL := 2) (ret := (some .int)) (by decide) rfl ?_
  intro p e s m args below meth c s₁ B hml hv
  obtain ⟨rfl, hsz, hP, hK, hD0, hF⟩ := hv
  have hx := B.exec
  have hb := B.bytes
  have hr := B.returns
  have hts := atoms_spec (ws := wsX9_stateOf) B.pre
  have hown : s.vm.findClass RX9 = some m.cls := findClass_of_methodNamed B.named
  have hlocks := B.notSynchronized
  subst hsz
  have hD := hD0.self (sz := s.heap.size)
  generalize hAe : va_A [(h0, .inr (16, [.ref h1, v0, v1, v2, v3, v4, v5, v6, v7, v8, v9, v10, v11, v12, v13, v14])), (h1, .inr (10, [.ref h2, v15, v16, v17, v18, v19, v20, v21, v22])), (h2, .inr (11, [v23, .int 0]))] s.heap.size = A at hD hF ⊢
  have hA : ∀ q : Nat, s.heap.size ≤ q → A q := fun q h => by rw [← hAe]; exact Or.inr h
  have hS : va_S A s.heap s.heap [] := va_S.rf
  have hP : va_P (dC, dI) vwCl [(h0, .inr (16, [.ref h1, v0, v1, v2, v3, v4, v5, v6, v7, v8, v9, v10, v11, v12, v13, v14])), (h1, .inr (10, [.ref h2, v15, v16, v17, v18, v19, v20, v21, v22])), (h2, .inr (11, [v23, .int 0]))] s.heap := hP
  have hl := lv_entry ([.ref h0, .int 7]) (n := 2) (Nat.le_of_ble_eq_true rfl)
  rw [lg_entry_eq]
  generalize (lg_sl ([.ref h0, .int 7]) ++ List.replicate (2 - (lg_sl ([.ref h0, .int 7])).length) Slot.unset).toArray = ls at hl ⊢
  have hl : lv_has ls 2 [(0, .ref h0), (1, .int 7)] := hl
  refine lv_iload_n hx hb dX9_stateOf_0 rfl (lv_at hl 1 rfl) ?_
  refine lv_tableOut (tgt := 85) hx hb dX9_stateOf_1 (by decide) (by decide) ?_
  refine lv_aload_n hx hb dX9_stateOf_85 rfl (lv_at hl 0 rfl) ?_
  refine va_get (D := (dC, dI)) (ci := 16) (v := .ref h1) (C := RX9) (T := TX9) (N := 16) hx hb hts (by decide +kernel) hown hK hP 0 rfl rfl 0 (by decide) (hts (.fieldLink RX9 12 "Nestprint" "nodes" "LNestprint$Nodes;") (by decide +kernel)) (fun _ h9 => h9) rfl dX9_stateOf_86 ?_
  have hPc := hP.sub (ws' := [(h1, .inr (10, [.ref h2, v15, v16, v17, v18, v19, v20, v21, v22])), (h2, .inr (11, [v23, .int 0]))]) [1, 2] rfl
  have hDc := hD.sub (ws' := [(h1, .inr (10, [.ref h2, v15, v16, v17, v18, v19, v20, v21, v22])), (h2, .inr (11, [v23, .int 0]))]) [1, 2] (by decide) rfl
  have hKc := hK.sub (tys' := []) [] rfl
  have hFc := va_free (wc := [(h1, .inr (10, [.ref h2, v15, v16, v17, v18, v19, v20, v21, v22])), (h2, .inr (11, [v23, .int 0]))]) hD hS hA [1, 2] rfl
  refine va_calli (va_runV (As := []) (rest := []) ⟨hx, hb, hml, hown, hts⟩ (kX3_weightOfAll l dC dI g s.heap.size h1 h2 v15 v16 v17 v18 v19 v20 v21 v22 v23 ) (cwV 0 hts gX9_stateOf_X3_weightOfAll rfl rfl rfl (by decide +kernel) ⟨Nat.le_of_ble_eq_true rfl, Nat.le_of_ble_eq_true rfl⟩) ⟨fun a U gg mk q => by obtain ⟨q0, q1, qP, qK, qD, qF⟩ := q; exact ⟨q0, q1, qP, va_K.moved (u := U) (U := U.calling gg mk a) (Vm.Alike.refl U.vm) qK, qD, ns_same qF⟩, va_recv hK hP (ci := 10) (q0 := 1) rfl rfl, fun U hU hW => ⟨rfl, by rw [hU], by rw [hU]; exact hPc, va_K.moved hW.alike hKc, hDc.weaken (fun _ _ _ _ => trivial), ns_call hF hS hFc hU hW⟩⟩ rfl rfl hl.1 rfl (lv_room (Nat.le_of_ble_eq_true rfl)) dX9_stateOf_89 ⟨Nat.le_of_ble_eq_true rfl, Nat.le_of_ble_eq_true rfl⟩) hS (fun q _ h => hFc q h) hFc (fun r9 u t H1 locs ht hvm hw hB hz1 hk1 hS => ?_)
  obtain rfl := hw
  obtain ⟨hP1, hK1, hD1⟩ := hB
  rw [ht] at hP1
  have hK1 := va_K.moved hvm.symm hK1
  obtain ⟨hP, hD⟩ := va_join (wr := [(h0, .inr (16, [.ref h1, v0, v1, v2, v3, v4, v5, v6, v7, v8, v9, v10, v11, v12, v13, v14]))]) (w1 := [(h1, .inr (10, [.ref h2, v15, v16, v17, v18, v19, v20, v21, v22])), (h2, .inr (11, [v23, .int 0]))]) hP hD [1, 2] [0] rfl rfl (by decide) (by decide) hk1 hFc hP1 hD1
  have hK := (hK.sub (tys' := []) [] rfl).app hK1
  generalize H1 = H at hP hS ⊢
  have hP : va_P (dC, dI) vwCl [(h0, .inr (16, [.ref h1, v0, v1, v2, v3, v4, v5, v6, v7, v8, v9, v10, v11, v12, v13, v14])), (h1, .inr (10, [.ref h2, v15, v16, v17, v18, v19, v20, v21, v22])), (h2, .inr (11, [v23, .int 0]))] H := hP
  have hD : va_D A [(h0, .inr (16, [.ref h1, v0, v1, v2, v3, v4, v5, v6, v7, v8, v9, v10, v11, v12, v13, v14])), (h1, .inr (10, [.ref h2, v15, v16, v17, v18, v19, v20, v21, v22])), (h2, .inr (11, [v23, .int 0]))] := hD
  have hK : va_K (dC, dI) vwCl [] s := hK
  refine W.widen (k := 0) (n := 0) (Nat.le_of_ble_eq_true rfl) (Nat.le_of_ble_eq_true rfl) ?_
  have hP9 := hP.sub (ws' := [(h0, .inr (16, [.ref h1, v0, v1, v2, v3, v4, v5, v6, v7, v8, v9, v10, v11, v12, v13, v14])), (h1, .inr (10, [.ref h2, v15, v16, v17, v18, v19, v20, v21, v22])), (h2, .inr (11, [v23, .int 0]))]) [0, 1, 2] rfl
  have hD9 := hD.sub (ws' := [(h0, .inr (16, [.ref h1, v0, v1, v2, v3, v4, v5, v6, v7, v8, v9, v10, v11, v12, v13, v14])), (h1, .inr (10, [.ref h2, v15, v16, v17, v18, v19, v20, v21, v22])), (h2, .inr (11, [v23, .int 0]))]) [0, 1, 2] (by decide) rfl
  have hK9 := hK.sub (tys' := []) [] rfl
  refine W.widen (k := 0) (n := 0) (Nat.le_of_ble_eq_true rfl) (Nat.le_of_ble_eq_true rfl) ?_
  exact W.iret (v := 0) hx hb hr (fun t ht hW => ⟨⟨_, (), rfl, rfl, by rw [ht]; exact hP9, va_K.moved hW.alike hK9, hD9⟩, hS.F ht⟩) hS.2.2 dX9_stateOf_92
set_option maxHeartbeats 4000000 in
set_option maxRecDepth 100000 in
theorem kX9_house_9 (l : Launch) (dC : Nat → ClassId) (dI : Nat → Nat → Nat) (g : Nat → Nat) (sz : Nat) (h0 : Nat) (h1 : Nat) (h2 : Nat) (v0 : Value) (v1 : Value) (v2 : Value) (v3 : Value) (v4 : Value) (v5 : Value) (v6 : Value) (v7 : Value) (v8 : Value) (v9 : Value) (v10 : Value) (v11 : Value) (v12 : Value) (v13 : Value) (v14 : Value) (v15 : Value) (v16 : Value) (v17 : Value) (v18 : Value) (v19 : Value) (v20 : Value) (v21 : Value) (v22 : Value) (v23 : Value) : Met l yX9_house wsX9_house ({ frames := 3, cells := 0, slots := 0, locals := 63 }) (va_Pc [.ref h0, .int 7] (fun U => U.heap.size = sz ∧ va_P (dC, dI) vwCl [(h0, .inr (16, [.ref h1, v0, v1, v2, v3, v4, v5, v6, v7, v8, v9, v10, v11, v12, v13, v14])), (h1, .inr (10, [.ref h2, v15, v16, v17, v18, v19, v20, v21, v22])), (h2, .inr (11, [v23, .int 0]))] U.heap ∧ va_K (dC, dI) vwCl [] U ∧ va_D (fun _ => True) [(h0, .inr (16, [.ref h1, v0, v1, v2, v3, v4, v5, v6, v7, v8, v9, v10, v11, v12, v13, v14])), (h1, .inr (10, [.ref h2, v15, v16, v17, v18, v19, v20, v21, v22])), (h2, .inr (11, [v23, .int 0]))] ∧ ns_F g (va_A [(h0, .inr (16, [.ref h1, v0, v1, v2, v3, v4, v5, v6, v7, v8, v9, v10, v11, v12, v13, v14])), (h1, .inr (10, [.ref h2, v15, v16, v17, v18, v19, v20, v21, v22])), (h2, .inr (11, [v23, .int 0]))] sz) U U.heap)) (va_Qi (fun (r : Int32) (_ : Unit) => r = 0) (fun _ t => va_P (dC, dI) vwCl [(h0, .inr (16, [.ref h1, v0, v1, v2, v3, v4, v5, v6, v7, v8, v9, v10, v11, v12, v13, v14])), (h1, .inr (10, [.ref h2, v15, v16, v17, v18, v19, v20, v21, v22])), (h2, .inr (11, [v23, .int 0]))] t.heap ∧ va_K (dC, dI) vwCl [] t ∧ va_D (va_A [(h0, .inr (16, [.ref h1, v0, v1, v2, v3, v4, v5, v6, v7, v8, v9, v10, v11, v12, v13, v14])), (h1, .inr (10, [.ref h2, v15, v16, v17, v18, v19, v20, v21, v22])), (h2, .inr (11, [v23, .int 0]))] sz) [(h0, .inr (16, [.ref h1, v0, v1, v2, v3, v4, v5, v6, v7, v8, v9, v10, v11, v12, v13, v14])), (h1, .inr (10, [.ref h2, v15, v16, v17, v18, v19, v20, v21, v22])), (h2, .inr (11, [v23, .int 0]))]) (va_A [(h0, .inr (16, [.ref h1, v0, v1, v2, v3, v4, v5, v6, v7, v8, v9, v10, v11, v12, v13, v14])), (h1, .inr (10, [.ref h2, v15, v16, v17, v18, v19, v20, v21, v22])), (h2, .inr (11, [v23, .int 0]))] sz)) 0 0 (va_A [(h0, .inr (16, [.ref h1, v0, v1, v2, v3, v4, v5, v6, v7, v8, v9, v10, v11, v12, v13, v14])), (h1, .inr (10, [.ref h2, v15, v16, v17, v18, v19, v20, v21, v22])), (h2, .inr (11, [v23, .int 0]))] sz) := by
  refine Met.ofW (cc := cX9_house) (maxL := 2) (ret := (some .int)) (by decide) rfl ?_
  intro p e s m args below meth c s₁ B hml hv
  obtain ⟨rfl, hsz, hP, hK, hD0, hF⟩ := hv
  have hx := B.exec
  have hb := B.bytes
  have hr := B.returns
  have hts := atoms_spec (ws := wsX9_house) B.pre
  have hown : s.vm.findClass RX9 = some m.cls := findClass_of_methodNamed B.named
  have hlocks := B.notSynchronized
  subst hsz
  have hD := hD0.self (sz := s.heap.size)
  generalize hAe : va_A [(h0, .inr (16, [.ref h1, v0, v1, v2, v3, v4, v5, v6, v7, v8, v9, v10, v11, v12, v13, v14])), (h1, .inr (10, [.ref h2, v15, v16, v17, v18, v19, v20, v21, v22])), (h2, .inr (11, [v23, .int 0]))] s.heap.size = A at hD hF ⊢
  have hA : ∀ q : Nat, s.heap.size ≤ q → A q := fun q h => by rw [← hAe]; exact Or.inr h
  have hS : va_S A s.heap s.heap [] := va_S.rf
  have hP : va_P (dC, dI) vwCl [(h0, .inr (16, [.ref h1, v0, v1, v2, v3, v4, v5, v6, v7, v8, v9, v10, v11, v12, v13, v14])), (h1, .inr (10, [.ref h2, v15, v16, v17, v18, v19, v20, v21, v22])), (h2, .inr (11, [v23, .int 0]))] s.heap := hP
  have hl := lv_entry ([.ref h0, .int 7]) (n := 2) (Nat.le_of_ble_eq_true rfl)
  rw [lg_entry_eq]
  generalize (lg_sl ([.ref h0, .int 7]) ++ List.replicate (2 - (lg_sl ([.ref h0, .int 7])).length) Slot.unset).toArray = ls at hl ⊢
  have hl : lv_has ls 2 [(0, .ref h0), (1, .int 7)] := hl
  refine lv_iload_n hx hb dX9_house_0 rfl (lv_at hl 1 rfl) ?_
  refine lv_if_lt (tgt := 10) hx hb dX9_house_1 (by decide) (fun c1 => absurd c1 (by decide)) (fun c1 => ?_)
  refine lv_iload_n hx hb dX9_house_4 rfl (lv_at hl 1 rfl) ?_
  refine lv_bipush (v := 7) hx hb dX9_house_5 (by decide) ?_
  refine lv_icmp_le (tgt := 20) hx hb dX9_house_7 (by decide) (fun c2 => ?_) (fun c2 => absurd (by decide) c2)
  refine lv_aload_n hx hb dX9_house_20 rfl (lv_at hl 0 rfl) ?_
  refine lv_iload_n hx hb dX9_house_21 rfl (lv_at hl 1 rfl) ?_
  have hPc := hP.sub (ws' := [(h0, .inr (16, [.ref h1, v0, v1, v2, v3, v4, v5, v6, v7, v8, v9, v10, v11, v12, v13, v14])), (h1, .inr (10, [.ref h2, v15, v16, v17, v18, v19, v20, v21, v22])), (h2, .inr (11, [v23, .int 0]))]) [0, 1, 2] rfl
  have hDc := hD.sub (ws' := [(h0, .inr (16, [.ref h1, v0, v1, v2, v3, v4, v5, v6, v7, v8, v9, v10, v11, v12, v13, v14])), (h1, .inr (10, [.ref h2, v15, v16, v17, v18, v19, v20, v21, v22])), (h2, .inr (11, [v23, .int 0]))]) [0, 1, 2] (by decide) rfl
  have hKc := hK.sub (tys' := []) [] rfl
  have hFc := va_free (wc := [(h0, .inr (16, [.ref h1, v0, v1, v2, v3, v4, v5, v6, v7, v8, v9, v10, v11, v12, v13, v14])), (h1, .inr (10, [.ref h2, v15, v16, v17, v18, v19, v20, v21, v22])), (h2, .inr (11, [v23, .int 0]))]) hD hS hA [0, 1, 2] rfl
  refine va_calli (va_runV (As := [.int 7]) (rest := []) ⟨hx, hb, hml, hown, hts⟩ (kX9_stateOf_8 l dC dI g s.heap.size h0 h1 h2 v0 v1 v2 v3 v4 v5 v6 v7 v8 v9 v10 v11 v12 v13 v14 v15 v16 v17 v18 v19 v20 v21 v22 v23 ) (cwV 1 hts gX9_house_X9_stateOf rfl rfl rfl (by decide +kernel) ⟨Nat.le_of_ble_eq_true rfl, Nat.le_of_ble_eq_true rfl⟩) ⟨fun a U gg mk q => by obtain ⟨q0, q1, qP, qK, qD, qF⟩ := q; exact ⟨q0, q1, qP, va_K.moved (u := U) (U := U.calling gg mk a) (Vm.Alike.refl U.vm) qK, qD, ns_same qF⟩, va_recv hK hP (ci := 16) (q0 := 0) rfl rfl, fun U hU hW => ⟨rfl, by rw [hU], by rw [hU]; exact hPc, va_K.moved hW.alike hKc, hDc.weaken (fun _ _ _ _ => trivial), ns_call hF hS hFc hU hW⟩⟩ rfl rfl hl.1 rfl (lv_room (Nat.le_of_ble_eq_true rfl)) dX9_house_22 ⟨Nat.le_of_ble_eq_true rfl, Nat.le_of_ble_eq_true rfl⟩) hS (fun q _ h => hFc q h) hFc (fun r9 u t H1 locs ht hvm hw hB hz1 hk1 hS => ?_)
  obtain rfl := hw
  obtain ⟨hP1, hK1, hD1⟩ := hB
  rw [ht] at hP1
  have hK1 := va_K.moved hvm.symm hK1
  obtain ⟨hP, hD⟩ := va_join (wr := []) (w1 := [(h0, .inr (16, [.ref h1, v0, v1, v2, v3, v4, v5, v6, v7, v8, v9, v10, v11, v12, v13, v14])), (h1, .inr (10, [.ref h2, v15, v16, v17, v18, v19, v20, v21, v22])), (h2, .inr (11, [v23, .int 0]))]) hP hD [0, 1, 2] [] rfl rfl (by decide) (by decide) hk1 hFc hP1 hD1
  have hK := (hK.sub (tys' := []) [] rfl).app hK1
  generalize H1 = H at hP hS ⊢
  have hP : va_P (dC, dI) vwCl [(h0, .inr (16, [.ref h1, v0, v1, v2, v3, v4, v5, v6, v7, v8, v9, v10, v11, v12, v13, v14])), (h1, .inr (10, [.ref h2, v15, v16, v17, v18, v19, v20, v21, v22])), (h2, .inr (11, [v23, .int 0]))] H := hP
  have hD : va_D A [(h0, .inr (16, [.ref h1, v0, v1, v2, v3, v4, v5, v6, v7, v8, v9, v10, v11, v12, v13, v14])), (h1, .inr (10, [.ref h2, v15, v16, v17, v18, v19, v20, v21, v22])), (h2, .inr (11, [v23, .int 0]))] := hD
  have hK : va_K (dC, dI) vwCl [] s := hK
  refine W.widen (k := 0) (n := 0) (Nat.le_of_ble_eq_true rfl) (Nat.le_of_ble_eq_true rfl) ?_
  have hP9 := hP.sub (ws' := [(h0, .inr (16, [.ref h1, v0, v1, v2, v3, v4, v5, v6, v7, v8, v9, v10, v11, v12, v13, v14])), (h1, .inr (10, [.ref h2, v15, v16, v17, v18, v19, v20, v21, v22])), (h2, .inr (11, [v23, .int 0]))]) [0, 1, 2] rfl
  have hD9 := hD.sub (ws' := [(h0, .inr (16, [.ref h1, v0, v1, v2, v3, v4, v5, v6, v7, v8, v9, v10, v11, v12, v13, v14])), (h1, .inr (10, [.ref h2, v15, v16, v17, v18, v19, v20, v21, v22])), (h2, .inr (11, [v23, .int 0]))]) [0, 1, 2] (by decide) rfl
  have hK9 := hK.sub (tys' := []) [] rfl
  refine W.widen (k := 0) (n := 0) (Nat.le_of_ble_eq_true rfl) (Nat.le_of_ble_eq_true rfl) ?_
  exact W.iret (v := 0) hx hb hr (fun t ht hW => ⟨⟨_, (), rfl, rfl, by rw [ht]; exact hP9, va_K.moved hW.alike hK9, hD9⟩, hS.F ht⟩) hS.2.2 dX9_house_25
set_option maxHeartbeats 4000000 in
set_option maxRecDepth 100000 in
theorem kL_house_9 (l : Launch) (dC : Nat → ClassId) (dI : Nat → Nat → Nat) (g : Nat → Nat) (sz : Nat) (h0 : Nat) (h1 : Nat) (h2 : Nat) (h3 : Nat) (v0 : Value) (v1 : Value) (v2 : Value) (v3 : Value) (v4 : Value) (v5 : Value) (v6 : Value) (v7 : Value) (v8 : Value) (v9 : Value) (v10 : Value) (v11 : Value) (v12 : Value) (v13 : Value) (v14 : Value) (v15 : Value) (v16 : Value) (v17 : Value) (v18 : Value) (v19 : Value) (v20 : Value) (v21 : Value) (v22 : Value) (v23 : Value) (v24 : Value) (v25 : Value) : Met l yL_house wsL_house ({ frames := 4, cells := 0, slots := 0, locals := 84 }) (va_Pc [.ref h0, .int 7, .ref h1] (fun U => U.heap.size = sz ∧ va_P (dC, dI) vwCl [(h0, .inr (16, [.ref h2, v0, v1, v2, v3, v4, v5, v6, v7, v8, v9, v10, v11, v12, v13, v14])), (h2, .inr (10, [.ref h3, v15, v16, v17, v18, v19, v20, v21, v22])), (h3, .inr (11, [v23, .int 0])), (h1, .inr (17, [v24, v25]))] U.heap ∧ va_K (dC, dI) vwCl [] U ∧ va_D (fun _ => True) [(h0, .inr (16, [.ref h2, v0, v1, v2, v3, v4, v5, v6, v7, v8, v9, v10, v11, v12, v13, v14])), (h2, .inr (10, [.ref h3, v15, v16, v17, v18, v19, v20, v21, v22])), (h3, .inr (11, [v23, .int 0])), (h1, .inr (17, [v24, v25]))] ∧ ns_F g (va_A [(h0, .inr (16, [.ref h2, v0, v1, v2, v3, v4, v5, v6, v7, v8, v9, v10, v11, v12, v13, v14])), (h2, .inr (10, [.ref h3, v15, v16, v17, v18, v19, v20, v21, v22])), (h3, .inr (11, [v23, .int 0])), (h1, .inr (17, [v24, v25]))] sz) U U.heap)) (va_Qi (fun (r : Int32) (_ : Unit) => r = 0) (fun _ t => va_P (dC, dI) vwCl [(h1, .inr (17, [.long 0, v25])), (h0, .inr (16, [.ref h2, v0, v1, v2, v3, v4, v5, v6, v7, v8, v9, v10, v11, v12, v13, v14])), (h2, .inr (10, [.ref h3, v15, v16, v17, v18, v19, v20, v21, v22])), (h3, .inr (11, [v23, .int 0]))] t.heap ∧ va_K (dC, dI) vwCl [] t ∧ va_D (va_A [(h0, .inr (16, [.ref h2, v0, v1, v2, v3, v4, v5, v6, v7, v8, v9, v10, v11, v12, v13, v14])), (h2, .inr (10, [.ref h3, v15, v16, v17, v18, v19, v20, v21, v22])), (h3, .inr (11, [v23, .int 0])), (h1, .inr (17, [v24, v25]))] sz) [(h1, .inr (17, [.long 0, v25])), (h0, .inr (16, [.ref h2, v0, v1, v2, v3, v4, v5, v6, v7, v8, v9, v10, v11, v12, v13, v14])), (h2, .inr (10, [.ref h3, v15, v16, v17, v18, v19, v20, v21, v22])), (h3, .inr (11, [v23, .int 0]))]) (va_A [(h0, .inr (16, [.ref h2, v0, v1, v2, v3, v4, v5, v6, v7, v8, v9, v10, v11, v12, v13, v14])), (h2, .inr (10, [.ref h3, v15, v16, v17, v18, v19, v20, v21, v22])), (h3, .inr (11, [v23, .int 0])), (h1, .inr (17, [v24, v25]))] sz)) 0 0 (va_A [(h0, .inr (16, [.ref h2, v0, v1, v2, v3, v4, v5, v6, v7, v8, v9, v10, v11, v12, v13, v14])), (h2, .inr (10, [.ref h3, v15, v16, v17, v18, v19, v20, v21, v22])), (h3, .inr (11, [v23, .int 0])), (h1, .inr (17, [v24, v25]))] sz) := by
  refine va_MetW (cc := cL_house) (maxL := 4) (ret := (some .int)) (hh := [(0, 10, 13, 19)]) (by decide) rfl ?_
  intro p e s m args below meth c s₁ B hml hv
  obtain ⟨rfl, hsz, hP, hK, hD0, hF⟩ := hv
  have hx := B.exec
  have hb := B.bytes
  have hr := B.returns
  have hts := atoms_spec (ws := wsL_house) B.pre
  have hown : s.vm.findClass RL = some m.cls := findClass_of_methodNamed B.named
  have hlocks := B.notSynchronized
  have htab : c.exceptionTable.toList = [⟨0, 10, 13, 19⟩] := vx_table B (hts _ List.mem_cons_self)
  subst hsz
  have hD := hD0.self (sz := s.heap.size)
  generalize hAe : va_A [(h0, .inr (16, [.ref h2, v0, v1, v2, v3, v4, v5, v6, v7, v8, v9, v10, v11, v12, v13, v14])), (h2, .inr (10, [.ref h3, v15, v16, v17, v18, v19, v20, v21, v22])), (h3, .inr (11, [v23, .int 0])), (h1, .inr (17, [v24, v25]))] s.heap.size = A at hD hF ⊢
  have hA : ∀ q : Nat, s.heap.size ≤ q → A q := fun q h => by rw [← hAe]; exact Or.inr h
  have hS : va_S A s.heap s.heap [] := va_S.rf
  have hP : va_P (dC, dI) vwCl [(h0, .inr (16, [.ref h2, v0, v1, v2, v3, v4, v5, v6, v7, v8, v9, v10, v11, v12, v13, v14])), (h2, .inr (10, [.ref h3, v15, v16, v17, v18, v19, v20, v21, v22])), (h3, .inr (11, [v23, .int 0])), (h1, .inr (17, [v24, v25]))] s.heap := hP
  have hl := lv_entry ([.ref h0, .int 7, .ref h1]) (n := 4) (Nat.le_of_ble_eq_true rfl)
  rw [lg_entry_eq]
  generalize (lg_sl ([.ref h0, .int 7, .ref h1]) ++ List.replicate (4 - (lg_sl ([.ref h0, .int 7, .ref h1])).length) Slot.unset).toArray = ls at hl ⊢
  have hl : lv_has ls 4 [(0, .ref h0), (1, .int 7), (2, .ref h1)] := hl
  refine lv_aload_n hx hb dL_house_0 rfl (lv_at hl 2 rfl) ?_
  refine lv_aload_n hx hb dL_house_1 rfl (lv_at hl 0 rfl) ?_
  refine lv_iload_n hx hb dL_house_2 rfl (lv_at hl 1 rfl) ?_
  have hPc := hP.sub (ws' := [(h0, .inr (16, [.ref h2, v0, v1, v2, v3, v4, v5, v6, v7, v8, v9, v10, v11, v12, v13, v14])), (h2, .inr (10, [.ref h3, v15, v16, v17, v18, v19, v20, v21, v22])), (h3, .inr (11, [v23, .int 0]))]) [0, 1, 2] rfl
  have hDc := hD.sub (ws' := [(h0, .inr (16, [.ref h2, v0, v1, v2, v3, v4, v5, v6, v7, v8, v9, v10, v11, v12, v13, v14])), (h2, .inr (10, [.ref h3, v15, v16, v17, v18, v19, v20, v21, v22])), (h3, .inr (11, [v23, .int 0]))]) [0, 1, 2] (by decide) rfl
  have hKc := hK.sub (tys' := []) [] rfl
  have hFc := va_free (wc := [(h0, .inr (16, [.ref h2, v0, v1, v2, v3, v4, v5, v6, v7, v8, v9, v10, v11, v12, v13, v14])), (h2, .inr (10, [.ref h3, v15, v16, v17, v18, v19, v20, v21, v22])), (h3, .inr (11, [v23, .int 0]))]) hD hS hA [0, 1, 2] rfl
  refine va_calli (va_runV (As := [.int 7]) (rest := [.ref h1]) ⟨hx, hb, hml, hown, hts⟩ (kX9_house_9 l dC dI g s.heap.size h0 h2 h3 v0 v1 v2 v3 v4 v5 v6 v7 v8 v9 v10 v11 v12 v13 v14 v15 v16 v17 v18 v19 v20 v21 v22 v23 ) (cwV 1 hts gL_house_X9_house rfl rfl rfl (by decide +kernel) ⟨Nat.le_of_ble_eq_true rfl, Nat.le_of_ble_eq_true rfl⟩) ⟨fun a U gg mk q => by obtain ⟨q0, q1, qP, qK, qD, qF⟩ := q; exact ⟨q0, q1, qP, va_K.moved (u := U) (U := U.calling gg mk a) (Vm.Alike.refl U.vm) qK, qD, ns_same qF⟩, va_recv hK hP (ci := 16) (q0 := 0) rfl rfl, fun U hU hW => ⟨rfl, by rw [hU], by rw [hU]; exact hPc, va_K.moved hW.alike hKc, hDc.weaken (fun _ _ _ _ => trivial), ns_call hF hS hFc hU hW⟩⟩ rfl rfl hl.1 rfl (lv_room (Nat.le_of_ble_eq_true rfl)) dL_house_3 ⟨Nat.le_of_ble_eq_true rfl, Nat.le_of_ble_eq_true rfl⟩) hS (fun q _ h => hFc q h) hFc (fun r9 u t H1 locs ht hvm hw hB hz1 hk1 hS => ?_)
  obtain rfl := hw
  obtain ⟨hP1, hK1, hD1⟩ := hB
  rw [ht] at hP1
  have hK1 := va_K.moved hvm.symm hK1
  obtain ⟨hP, hD⟩ := va_join (wr := [(h1, .inr (17, [v24, v25]))]) (w1 := [(h0, .inr (16, [.ref h2, v0, v1, v2, v3, v4, v5, v6, v7, v8, v9, v10, v11, v12, v13, v14])), (h2, .inr (10, [.ref h3, v15, v16, v17, v18, v19, v20, v21, v22])), (h3, .inr (11, [v23, .int 0]))]) hP hD [0, 1, 2] [3] rfl rfl (by decide) (by decide) hk1 hFc hP1 hD1
  have hK := (hK.sub (tys' := []) [] rfl).app hK1
  generalize H1 = H at hP hS ⊢
  have hP : va_P (dC, dI) vwCl [(h1, .inr (17, [v24, v25])), (h0, .inr (16, [.ref h2, v0, v1, v2, v3, v4, v5, v6, v7, v8, v9, v10, v11, v12, v13, v14])), (h2, .inr (10, [.ref h3, v15, v16, v17, v18, v19, v20, v21, v22])), (h3, .inr (11, [v23, .int 0]))] H := hP
  have hD : va_D A [(h1, .inr (17, [v24, v25])), (h0, .inr (16, [.ref h2, v0, v1, v2, v3, v4, v5, v6, v7, v8, v9, v10, v11, v12, v13, v14])), (h2, .inr (10, [.ref h3, v15, v16, v17, v18, v19, v20, v21, v22])), (h3, .inr (11, [v23, .int 0]))] := hD
  have hK : va_K (dC, dI) vwCl [] s := hK
  refine W.widen (k := 0) (n := 0) (Nat.le_of_ble_eq_true rfl) (Nat.le_of_ble_eq_true rfl) ?_
  refine lv_i2l (v := 0) hx hb dL_house_6 (by decide) ?_
  refine va_putN (D := (dC, dI)) (ci := 17) (v := .long 0) (ty := .long) (C := RX10) (T := TX10) (N := 2) hx hb hts (by decide +kernel) tyX10 tyX10_ok nmX10 hown hK hP hD hS 0 rfl rfl 0 (by decide) (va_Nw.use rfl (ns_f7 hF)) (fun _ h9 => h9) rfl (by decide +kernel) rfl rfl (Nat.le_of_ble_eq_true rfl) dL_house_7 (fun H locs hP hD hS => ?_)
  have hP : va_P (dC, dI) vwCl [(h1, .inr (17, [.long 0, v25])), (h0, .inr (16, [.ref h2, v0, v1, v2, v3, v4, v5, v6, v7, v8, v9, v10, v11, v12, v13, v14])), (h2, .inr (10, [.ref h3, v15, v16, v17, v18, v19, v20, v21, v22])), (h3, .inr (11, [v23, .int 0]))] H := hP
  have hD : va_D A [(h1, .inr (17, [.long 0, v25])), (h0, .inr (16, [.ref h2, v0, v1, v2, v3, v4, v5, v6, v7, v8, v9, v10, v11, v12, v13, v14])), (h2, .inr (10, [.ref h3, v15, v16, v17, v18, v19, v20, v21, v22])), (h3, .inr (11, [v23, .int 0]))] := hD
  refine lv_goto (tgt := 16) hx hb dL_house_10 (by decide) ?_
  refine lv_iconst (v := 0) hx hb dL_house_16 (by decide) ?_
  have hP9 := hP.sub (ws' := [(h1, .inr (17, [.long 0, v25])), (h0, .inr (16, [.ref h2, v0, v1, v2, v3, v4, v5, v6, v7, v8, v9, v10, v11, v12, v13, v14])), (h2, .inr (10, [.ref h3, v15, v16, v17, v18, v19, v20, v21, v22])), (h3, .inr (11, [v23, .int 0]))]) [0, 1, 2, 3] rfl
  have hD9 := hD.sub (ws' := [(h1, .inr (17, [.long 0, v25])), (h0, .inr (16, [.ref h2, v0, v1, v2, v3, v4, v5, v6, v7, v8, v9, v10, v11, v12, v13, v14])), (h2, .inr (10, [.ref h3, v15, v16, v17, v18, v19, v20, v21, v22])), (h3, .inr (11, [v23, .int 0]))]) [0, 1, 2, 3] (by decide) rfl
  have hK9 := hK.sub (tys' := []) [] rfl
  refine W.widen (k := 0) (n := 0) (Nat.le_of_ble_eq_true rfl) (Nat.le_of_ble_eq_true rfl) ?_
  exact W.iret (v := 0) hx hb hr (fun t ht hW => ⟨⟨_, (), rfl, rfl, by rw [ht]; exact hP9, va_K.moved hW.alike hK9, hD9⟩, hS.F ht⟩) hS.2.2 dL_house_17
set_option maxHeartbeats 4000000 in
set_option maxRecDepth 100000 in
theorem kX16_isIn_23 (l : Launch) (dC : Nat → ClassId) (dI : Nat → Nat → Nat) (g : Nat → Nat) (sz : Nat)  : Met l yX16_isIn wsX16_isIn ({ frames := 0, cells := 0, slots := 0, locals := 0 }) (va_Pc [.int 7, .int 0, .int 7] (fun U => U.heap.size = sz ∧ va_P (dC, dI) vwCl [] U.heap ∧ va_K (dC, dI) vwCl [] U ∧ va_D (fun _ => True) [] ∧ ns_F g (va_A [] sz) U U.heap)) (va_Qi (fun (r : Int32) (_ : Unit) => r = 1) (fun _ t => va_P (dC, dI) vwCl [] t.heap ∧ va_K (dC, dI) vwCl [] t ∧ va_D (va_A [] sz) []) (va_A [] sz)) 0 0 (va_A [] sz) := by
  refine Met.ofW (cc := cX16_isIn) (maxL := 3) (ret := (some .boolean)) (by decide) rfl ?_
  intro p e s m args below meth c s₁ B hml hv
  obtain ⟨rfl, hsz, hP, hK, hD0, hF⟩ := hv
  have hx := B.exec
  have hb := B.bytes
  have hr := B.returns
  have hts := atoms_spec (ws := wsX16_isIn) B.pre
  have hown : s.vm.findClass RX16 = some m.cls := findClass_of_methodNamed B.named
  have hlocks := B.notSynchronized
  subst hsz
  have hD := hD0.self (sz := s.heap.size)
  generalize hAe : va_A [] s.heap.size = A at hD hF ⊢
  have hA : ∀ q : Nat, s.heap.size ≤ q → A q := fun q h => by rw [← hAe]; exact Or.inr h
  have hS : va_S A s.heap s.heap [] := va_S.rf
  have hP : va_P (dC, dI) vwCl [] s.heap := hP
  have hl := lv_entry ([.int 7, .int 0, .int 7]) (n := 3) (Nat.le_of_ble_eq_true rfl)
  rw [lg_entry_eq]
  generalize (lg_sl ([.int 7, .int 0, .int 7]) ++ List.replicate (3 - (lg_sl ([.int 7, .int 0, .int 7])).length) Slot.unset).toArray = ls at hl ⊢
  have hl : lv_has ls 3 [(0, .int 7), (1, .int 0), (2, .int 7)] := hl
  refine lv_iload_n hx hb dX16_isIn_0 rfl (lv_at hl 0 rfl) ?_
  refine lv_iload_n hx hb dX16_isIn_1 rfl (lv_at hl 1 rfl) ?_
  refine lv_icmp_lt (tgt := 14) hx hb dX16_isIn_2 (by decide) (fun c1 => absurd c1 (by decide)) (fun c1 => ?_)
  refine lv_iload_n hx hb dX16_isIn_5 rfl (lv_at hl 0 rfl) ?_
  refine lv_iload_n hx hb dX16_isIn_6 rfl (lv_at hl 2 rfl) ?_
  refine lv_icmp_gt (tgt := 14) hx hb dX16_isIn_7 (by decide) (fun c2 => absurd c2 (by decide)) (fun c2 => ?_)
  refine lv_iconst (v := 1) hx hb dX16_isIn_10 (by decide) ?_
  refine lv_goto (tgt := 15) hx hb dX16_isIn_11 (by decide) ?_
  have hP9 := hP.sub (ws' := []) [] rfl
  have hD9 := hD.sub (ws' := []) [] (by decide) rfl
  have hK9 := hK.sub (tys' := []) [] rfl
  refine W.widen (k := 0) (n := 0) (Nat.le_of_ble_eq_true rfl) (Nat.le_of_ble_eq_true rfl) ?_
  exact W.zret (v := 1) hx hb hr (by decide) (fun t ht hW => ⟨⟨_, (), rfl, rfl, by rw [ht]; exact hP9, va_K.moved hW.alike hK9, hD9⟩, hS.F ht⟩) hS.2.2 dX16_isIn_15
set_option maxHeartbeats 4000000 in
set_option maxRecDepth 100000 in
theorem kX16_houseTold_8 (l : Launch) (dC : Nat → ClassId) (dI : Nat → Nat → Nat) (g : Nat → Nat) (sz : Nat) (h0 : Nat) (h1 : Nat) (v0 : Value) (v1 : Value) (v2 : Value) : Met l yX16_houseTold wsX16_houseTold ({ frames := 3, cells := 2, slots := 12, locals := 53 }) (va_Pc [.ref h0, .int 7] (fun U => U.heap.size = sz ∧ va_P (dC, dI) vwCl [(h0, .inr (23, [v0, .ref h1, .int 20, .int 60, .ref (g 34), v1, .int 0, .int 0, .int 0])), (h1, .inr (6, [.int 0, v2, .int 0]))] U.heap ∧ va_K (dC, dI) vwCl [] U ∧ va_D (fun _ => True) [(h0, .inr (23, [v0, .ref h1, .int 20, .int 60, .ref (g 34), v1, .int 0, .int 0, .int 0])), (h1, .inr (6, [.int 0, v2, .int 0]))] ∧ ns_F g (va_A [(h0, .inr (23, [v0, .ref h1, .int 20, .int 60, .ref (g 34), v1, .int 0, .int 0, .int 0])), (h1, .inr (6, [.int 0, v2, .int 0]))] sz) U U.heap)) (va_Qi (fun (r : Int32) (_ : Unit) => r = 0) (fun _ t => ∃ k0 : Nat, ∃ k1 : Nat, ∃ kc2 : ClassId, va_P (dC, dI) vwCl [(h0, .inr (23, [v0, .ref h1, .int 20, .int 60, .ref (g 34), v1, .int 0, .int 0, .int 0])), (k0, .inr (5, [.int 0, .int (-1), .int 0, .ref h1])), (k1, .inl (kc2, 8, .inl (upd (upd (upd (upd (upd (upd (upd (upd (fun _ => 0) 0 0) 1 20) 2 60) 3 0) 4 0) 5 0) 6 0) 7 0))), (h1, .inr (6, [.int 0, v2, .int 0]))] t.heap ∧ va_K (dC, dI) vwCl [(kc2, .int)] t ∧ va_D (va_A [(h0, .inr (23, [v0, .ref h1, .int 20, .int 60, .ref (g 34), v1, .int 0, .int 0, .int 0])), (h1, .inr (6, [.int 0, v2, .int 0]))] sz) [(h0, .inr (23, [v0, .ref h1, .int 20, .int 60, .ref (g 34), v1, .int 0, .int 0, .int 0])), (k0, .inr (5, [.int 0, .int (-1), .int 0, .ref h1])), (k1, .inl (kc2, 8, .inl (upd (upd (upd (upd (upd (upd (upd (upd (fun _ => 0) 0 0) 1 20) 2 60) 3 0) 4 0) 5 0) 6 0) 7 0))), (h1, .inr (6, [.int 0, v2, .int 0]))]) (va_A [(h0, .inr (23, [v0, .ref h1, .int 20, .int 60, .ref (g 34), v1, .int 0, .int 0, .int 0])), (h1, .inr (6, [.int 0, v2, .int 0]))] sz)) 2 12 (va_A [(h0, .inr (23, [v0, .ref h1, .int 20, .int 60, .ref (g 34), v1, .int 0, .int 0, .int 0])), (h1, .inr (6, [.int 0, v2, .int 0]))] sz) := by
  refine Met.ofW (cc := cX16_houseTold) (maxL := 5) (ret := (some .int)) (by decide) rfl ?_
  intro p e s m args below meth c s₁ B hml hv
  obtain ⟨rfl, hsz, hP, hK, hD0, hF⟩ := hv
  have hx := B.exec
  have hb := B.bytes
  have hr := B.returns
  have hts := atoms_spec (ws := wsX16_houseTold) B.pre
  have hown : s.vm.findClass RX16 = some m.cls := findClass_of_methodNamed B.named
  have hlocks := B.notSynchronized
  subst hsz
  have hD := hD0.self (sz := s.heap.size)
  generalize hAe : va_A [(h0, .inr (23, [v0, .ref h1, .int 20, .int 60, .ref (g 34), v1, .int 0, .int 0, .int 0])), (h1, .inr (6, [.int 0, v2, .int 0]))] s.heap.size = A at hD hF ⊢
  have hA : ∀ q : Nat, s.heap.size ≤ q → A q := fun q h => by rw [← hAe]; exact Or.inr h
  have hS : va_S A s.heap s.heap [] := va_S.rf
  have hP : va_P (dC, dI) vwCl [(h0, .inr (23, [v0, .ref h1, .int 20, .int 60, .ref (g 34), v1, .int 0, .int 0, .int 0])), (h1, .inr (6, [.int 0, v2, .int 0]))] s.heap := hP
  have hl := lv_entry ([.ref h0, .int 7]) (n := 5) (Nat.le_of_ble_eq_true rfl)
  rw [lg_entry_eq]
  generalize (lg_sl ([.ref h0, .int 7]) ++ List.replicate (5 - (lg_sl ([.ref h0, .int 7])).length) Slot.unset).toArray = ls at hl ⊢
  have hl : lv_has ls 5 [(0, .ref h0), (1, .int 7)] := hl
  refine lv_iconst (v := 0) hx hb dX16_houseTold_0 (by decide) ?_
  refine lv_istore_n (lv' := [(2, .int 0), (0, .ref h0), (1, .int 7)]) hx hb dX16_houseTold_1 rfl hl (by decide) rfl (fun ls hl => ?_)
  refine lv_aload_n hx hb dX16_houseTold_2 rfl (lv_at hl 1 rfl) ?_
  refine va_get (D := (dC, dI)) (ci := 23) (v := .ref h1) (C := RX16) (T := TX16) (N := 9) hx hb hts (by decide +kernel) hown hK hP 0 rfl rfl 1 (by decide) (hts (.fieldLink RX16 10 "NestprintModel" "nodes" "Ljava/util/ArrayList;") (by decide +kernel)) (fun _ h9 => h9) rfl dX16_houseTold_3 ?_
  have hPc := hP.sub (ws' := [(h1, .inr (6, [.int 0, v2, .int 0]))]) [1] rfl
  have hDc := hD.sub (ws' := [(h1, .inr (6, [.int 0, v2, .int 0]))]) [1] (by decide) rfl
  have hKc := hK.sub (tys' := []) [] rfl
  have hFc := va_free (wc := [(h1, .inr (6, [.int 0, v2, .int 0]))]) hD hS hA [1] rfl
  refine va_callr (va_runV (As := []) (rest := []) ⟨hx, hb, hml, hown, hts⟩ (kJx4a65c_iterator_32c93 l dC dI g s.heap.size h1 v2 (.int 0) ) (cwV 0 hts gX16_houseTold_Jx4a65c_iterator_32c93 rfl rfl rfl (by decide +kernel) ⟨Nat.le_of_ble_eq_true rfl, Nat.le_of_ble_eq_true rfl⟩) ⟨fun a U gg mk q => by obtain ⟨q0, q1, qP, qK, qD, qF⟩ := q; exact ⟨q0, q1, qP, va_K.moved (u := U) (U := U.calling gg mk a) (Vm.Alike.refl U.vm) qK, qD, ns_same qF⟩, va_recv hK hP (ci := 6) (q0 := 1) rfl rfl, fun U hU hW => ⟨rfl, by rw [hU], by rw [hU]; exact hPc, va_K.moved hW.alike hKc, hDc.weaken (fun _ _ _ _ => trivial), ns_call hF hS hFc hU hW⟩⟩ rfl rfl hl.1 rfl (lv_room (Nat.le_of_ble_eq_true rfl)) dX16_houseTold_6 ⟨Nat.le_of_ble_eq_true rfl, Nat.le_of_ble_eq_true rfl⟩) hS (fun q _ h => hFc q h) hFc (fun u r9 t H1 locs ht hvm hw hB hz1 hk1 hS => ?_)
  obtain ⟨q1, rfl, hP1, hK1, hD1⟩ := hB
  rw [ht] at hP1
  have hK1 := va_K.moved hvm.symm hK1
  obtain ⟨hP, hD⟩ := va_join (wr := [(h0, .inr (23, [v0, .ref h1, .int 20, .int 60, .ref (g 34), v1, .int 0, .int 0, .int 0]))]) (w1 := [(q1, .inr (5, [.int 0, .int (-1), .int 0, .ref h1])), (h1, .inr (6, [.int 0, v2, .int 0]))]) hP hD [1] [0] rfl rfl (by decide) (by decide) hk1 hFc hP1 hD1
  have hK := (hK.sub (tys' := []) [] rfl).app hK1
  generalize H1 = H at hP hS ⊢
  have hP : va_P (dC, dI) vwCl [(h0, .inr (23, [v0, .ref h1, .int 20, .int 60, .ref (g 34), v1, .int 0, .int 0, .int 0])), (q1, .inr (5, [.int 0, .int (-1), .int 0, .ref h1])), (h1, .inr (6, [.int 0, v2, .int 0]))] H := hP
  have hD : va_D A [(h0, .inr (23, [v0, .ref h1, .int 20, .int 60, .ref (g 34), v1, .int 0, .int 0, .int 0])), (q1, .inr (5, [.int 0, .int (-1), .int 0, .ref h1])), (h1, .inr (6, [.int 0, v2, .int 0]))] := hD
  have hK : va_K (dC, dI) vwCl [] s := hK
  refine W.widen (k := 1) (n := 4) (Nat.le_of_ble_eq_true rfl) (Nat.le_of_ble_eq_true rfl) ?_
  refine lv_astore_n (lv' := [(3, .ref q1), (2, .int 0), (0, .ref h0), (1, .int 7)]) hx hb dX16_houseTold_9 rfl hl (by decide) rfl (fun ls hl => ?_)
  refine lv_aload_n hx hb dX16_houseTold_10 rfl (lv_at hl 0 rfl) ?_
  have hPc := hP.sub (ws' := [(q1, .inr (5, [.int 0, .int (-1), .int 0, .ref h1])), (h1, .inr (6, [.int 0, v2, .int 0]))]) [1, 2] rfl
  have hDc := hD.sub (ws' := [(q1, .inr (5, [.int 0, .int (-1), .int 0, .ref h1])), (h1, .inr (6, [.int 0, v2, .int 0]))]) [1, 2] (by decide) rfl
  have hKc := hK.sub (tys' := []) [] rfl
  have hFc := va_free (wc := [(q1, .inr (5, [.int 0, .int (-1), .int 0, .ref h1])), (h1, .inr (6, [.int 0, v2, .int 0]))]) hD hS hA [1, 2] rfl
  refine va_callFi (va_runF (hK.1 5 _ rfl).2 (As := []) (rest := []) ⟨hx, hb, hml, hown, hts⟩ (kJx35411_hasNext_aae02 l dC dI g H.size q1 h1 (.int (-1)) (.int 0) (.int 0) v2 ) (va_cwF 0 hts gX16_houseTold_Jx35411_hasNext_aae02_f133Jx35411 rfl rfl rfl (ns_f51 hF) (by decide +kernel) ⟨Nat.le_of_ble_eq_true rfl, Nat.le_of_ble_eq_true rfl⟩) ⟨fun a U gg mk q => by obtain ⟨q0, q1, qP, qK, qD, qF⟩ := q; exact ⟨q0, q1, qP, va_K.moved (u := U) (U := U.calling gg mk a) (Vm.Alike.refl U.vm) qK, qD, ns_same qF⟩, va_recv hK hP (ci := 5) (q0 := 1) rfl rfl, fun U hU hW => ⟨rfl, by rw [hU], by rw [hU]; exact hPc, va_K.moved hW.alike hKc, hDc.weaken (fun _ _ _ _ => trivial), ns_call hF hS hFc hU hW⟩⟩ rfl rfl hl.1 rfl (lv_room (Nat.le_of_ble_eq_true rfl)) dX16_houseTold_11 ⟨Nat.le_of_ble_eq_true rfl, Nat.le_of_ble_eq_true rfl⟩) hS (fun q _ h => hFc q h) hFc (fun r9 u t H1 locs ht hvm hw hB hz1 hk1 hS => ?_)
  obtain rfl := hw
  obtain ⟨hP1, hK1, hD1⟩ := hB
  rw [ht] at hP1
  have hK1 := va_K.moved hvm.symm hK1
  obtain ⟨hP, hD⟩ := va_join (wr := [(h0, .inr (23, [v0, .ref h1, .int 20, .int 60, .ref (g 34), v1, .int 0, .int 0, .int 0]))]) (w1 := [(q1, .inr (5, [.int 0, .int (-1), .int 0, .ref h1])), (h1, .inr (6, [.int 0, v2, .int 0]))]) hP hD [1, 2] [0] rfl rfl (by decide) (by decide) hk1 hFc hP1 hD1
  have hK := (hK.sub (tys' := []) [] rfl).app hK1
  generalize H1 = H at hP hS ⊢
  have hP : va_P (dC, dI) vwCl [(h0, .inr (23, [v0, .ref h1, .int 20, .int 60, .ref (g 34), v1, .int 0, .int 0, .int 0])), (q1, .inr (5, [.int 0, .int (-1), .int 0, .ref h1])), (h1, .inr (6, [.int 0, v2, .int 0]))] H := hP
  have hD : va_D A [(h0, .inr (23, [v0, .ref h1, .int 20, .int 60, .ref (g 34), v1, .int 0, .int 0, .int 0])), (q1, .inr (5, [.int 0, .int (-1), .int 0, .ref h1])), (h1, .inr (6, [.int 0, v2, .int 0]))] := hD
  have hK : va_K (dC, dI) vwCl [] s := hK
  refine W.widen (k := 1) (n := 4) (Nat.le_of_ble_eq_true rfl) (Nat.le_of_ble_eq_true rfl) ?_
  refine lv_if_eq (tgt := 41) hx hb dX16_houseTold_16 (by decide) (fun c2 => ?_) (fun c2 => absurd (by decide) c2)
  refine lv_bipush (v := 8) hx hb dX16_houseTold_41 (by decide) ?_
  refine va_newa (atype := .int) hx hb (hts (.arrayClass .int) (by decide +kernel)) rfl hK hP hD hS hA (N' := 8) (a0 := (8, .inl (fun _ => 0))) (fun _ => rfl) (by decide) (by decide) (Nat.le_of_ble_eq_true rfl) (Nat.le_of_ble_eq_true rfl) (Nat.le_of_ble_eq_true rfl) dX16_houseTold_43 (fun q3 cyq3 H hK hP hD hS => ?_)
  have hP : va_P (dC, dI) vwCl [(h0, .inr (23, [v0, .ref h1, .int 20, .int 60, .ref (g 34), v1, .int 0, .int 0, .int 0])), (q1, .inr (5, [.int 0, .int (-1), .int 0, .ref h1])), (h1, .inr (6, [.int 0, v2, .int 0])), (q3, .inl (cyq3, 8, .inl (fun _ => 0)))] H := hP
  have hD : va_D A [(h0, .inr (23, [v0, .ref h1, .int 20, .int 60, .ref (g 34), v1, .int 0, .int 0, .int 0])), (q1, .inr (5, [.int 0, .int (-1), .int 0, .ref h1])), (h1, .inr (6, [.int 0, v2, .int 0])), (q3, .inl (cyq3, 8, .inl (fun _ => 0)))] := hD
  have hK : va_K (dC, dI) vwCl [(cyq3, .int)] s := hK
  refine W.widen (k := 2) (n := 12) (Nat.le_of_ble_eq_true rfl) (Nat.le_of_ble_eq_true rfl) ?_
  refine lv_dup hx hb dX16_houseTold_45 rfl ?_
  refine lv_iconst (v := 0) hx hb dX16_houseTold_46 (by decide) ?_
  refine lv_aload_n hx hb dX16_houseTold_47 rfl (lv_at hl 2 rfl) ?_
  refine va_get (D := (dC, dI)) (ci := 23) (v := .ref h1) (C := RX16) (T := TX16) (N := 9) hx hb hts (by decide +kernel) hown hK hP 0 rfl rfl 1 (by decide) (hts (.fieldLink RX16 10 "NestprintModel" "nodes" "Ljava/util/ArrayList;") (by decide +kernel)) (fun _ h9 => h9) rfl dX16_houseTold_48 ?_
  have hPc := hP.sub (ws' := [(h1, .inr (6, [.int 0, v2, .int 0]))]) [2] rfl
  have hDc := hD.sub (ws' := [(h1, .inr (6, [.int 0, v2, .int 0]))]) [2] (by decide) rfl
  have hKc := hK.sub (tys' := []) [] rfl
  have hFc := va_free (wc := [(h1, .inr (6, [.int 0, v2, .int 0]))]) hD hS hA [2] rfl
  refine va_calli (va_runV (As := []) (rest := [.int 0, .ref q3, .ref q3]) ⟨hx, hb, hml, hown, hts⟩ (kJx4a65c_size_8abf5 l dC dI g H.size h1 (.int 0) v2 ) (cwV 0 hts gX16_houseTold_Jx4a65c_size_8abf5 rfl rfl rfl (by decide +kernel) ⟨Nat.le_of_ble_eq_true rfl, Nat.le_of_ble_eq_true rfl⟩) ⟨fun a U gg mk q => by obtain ⟨q0, q1, qP, qK, qD, qF⟩ := q; exact ⟨q0, q1, qP, va_K.moved (u := U) (U := U.calling gg mk a) (Vm.Alike.refl U.vm) qK, qD, ns_same qF⟩, va_recv hK hP (ci := 6) (q0 := 2) rfl rfl, fun U hU hW => ⟨rfl, by rw [hU], by rw [hU]; exact hPc, va_K.moved hW.alike hKc, hDc.weaken (fun _ _ _ _ => trivial), ns_call hF hS hFc hU hW⟩⟩ rfl rfl hl.1 rfl (lv_room (Nat.le_of_ble_eq_true rfl)) dX16_houseTold_51 ⟨Nat.le_of_ble_eq_true rfl, Nat.le_of_ble_eq_true rfl⟩) hS (fun q _ h => hFc q h) hFc (fun r9 u t H1 locs ht hvm hw hB hz1 hk1 hS => ?_)
  obtain rfl := hw
  obtain ⟨hP1, hK1, hD1⟩ := hB
  rw [ht] at hP1
  have hK1 := va_K.moved hvm.symm hK1
  obtain ⟨hP, hD⟩ := va_join (wr := [(h0, .inr (23, [v0, .ref h1, .int 20, .int 60, .ref (g 34), v1, .int 0, .int 0, .int 0])), (q1, .inr (5, [.int 0, .int (-1), .int 0, .ref h1])), (q3, .inl (cyq3, 8, .inl (fun _ => 0)))]) (w1 := [(h1, .inr (6, [.int 0, v2, .int 0]))]) hP hD [2] [0, 1, 3] rfl rfl (by decide) (by decide) hk1 hFc hP1 hD1
  have hK := (hK.sub (tys' := [(cyq3, .int)]) [0] rfl).app hK1
  generalize H1 = H at hP hS ⊢
  have hP : va_P (dC, dI) vwCl [(h0, .inr (23, [v0, .ref h1, .int 20, .int 60, .ref (g 34), v1, .int 0, .int 0, .int 0])), (q1, .inr (5, [.int 0, .int (-1), .int 0, .ref h1])), (q3, .inl (cyq3, 8, .inl (fun _ => 0))), (h1, .inr (6, [.int 0, v2, .int 0]))] H := hP
  have hD : va_D A [(h0, .inr (23, [v0, .ref h1, .int 20, .int 60, .ref (g 34), v1, .int 0, .int 0, .int 0])), (q1, .inr (5, [.int 0, .int (-1), .int 0, .ref h1])), (q3, .inl (cyq3, 8, .inl (fun _ => 0))), (h1, .inr (6, [.int 0, v2, .int 0]))] := hD
  have hK : va_K (dC, dI) vwCl [(cyq3, .int)] s := hK
  refine W.widen (k := 2) (n := 12) (Nat.le_of_ble_eq_true rfl) (Nat.le_of_ble_eq_true rfl) ?_
  refine va_iast hx hb hK hP hD hS 2 0 rfl rfl (vp_in_nI (n := 0) (by decide) (by decide)) dX16_houseTold_54 (fun H locs hP hD hS => ?_)
  have hP : va_P (dC, dI) vwCl [(h0, .inr (23, [v0, .ref h1, .int 20, .int 60, .ref (g 34), v1, .int 0, .int 0, .int 0])), (q1, .inr (5, [.int 0, .int (-1), .int 0, .ref h1])), (q3, .inl (cyq3, 8, .inl (upd (fun _ => 0) 0 0))), (h1, .inr (6, [.int 0, v2, .int 0]))] H := hP
  have hD : va_D A [(h0, .inr (23, [v0, .ref h1, .int 20, .int 60, .ref (g 34), v1, .int 0, .int 0, .int 0])), (q1, .inr (5, [.int 0, .int (-1), .int 0, .ref h1])), (q3, .inl (cyq3, 8, .inl (upd (fun _ => 0) 0 0))), (h1, .inr (6, [.int 0, v2, .int 0]))] := hD
  refine lv_dup hx hb dX16_houseTold_55 rfl ?_
  refine lv_iconst (v := 1) hx hb dX16_houseTold_56 (by decide) ?_
  refine lv_aload_n hx hb dX16_houseTold_57 rfl (lv_at hl 2 rfl) ?_
  refine va_get (D := (dC, dI)) (ci := 23) (v := .int 20) (C := RX16) (T := TX16) (N := 9) hx hb hts (by decide +kernel) hown hK hP 0 rfl rfl 2 (by decide) (hts (.fieldLink RX16 16 "NestprintModel" "width" "I") (by decide +kernel)) (fun _ h9 => h9) rfl dX16_houseTold_58 ?_
  refine va_iast hx hb hK hP hD hS 2 0 rfl rfl (vp_in_nI (n := 1) (by decide) (by decide)) dX16_houseTold_61 (fun H locs hP hD hS => ?_)
  have hP : va_P (dC, dI) vwCl [(h0, .inr (23, [v0, .ref h1, .int 20, .int 60, .ref (g 34), v1, .int 0, .int 0, .int 0])), (q1, .inr (5, [.int 0, .int (-1), .int 0, .ref h1])), (q3, .inl (cyq3, 8, .inl (upd (upd (fun _ => 0) 0 0) 1 20))), (h1, .inr (6, [.int 0, v2, .int 0]))] H := hP
  have hD : va_D A [(h0, .inr (23, [v0, .ref h1, .int 20, .int 60, .ref (g 34), v1, .int 0, .int 0, .int 0])), (q1, .inr (5, [.int 0, .int (-1), .int 0, .ref h1])), (q3, .inl (cyq3, 8, .inl (upd (upd (fun _ => 0) 0 0) 1 20))), (h1, .inr (6, [.int 0, v2, .int 0]))] := hD
  refine lv_dup hx hb dX16_houseTold_62 rfl ?_
  refine lv_iconst (v := 2) hx hb dX16_houseTold_63 (by decide) ?_
  refine lv_aload_n hx hb dX16_houseTold_64 rfl (lv_at hl 2 rfl) ?_
  refine va_get (D := (dC, dI)) (ci := 23) (v := .int 60) (C := RX16) (T := TX16) (N := 9) hx hb hts (by decide +kernel) hown hK hP 0 rfl rfl 3 (by decide) (hts (.fieldLink RX16 20 "NestprintModel" "ribbon" "I") (by decide +kernel)) (fun _ h9 => h9) rfl dX16_houseTold_65 ?_
  refine va_iast hx hb hK hP hD hS 2 0 rfl rfl (vp_in_nI (n := 2) (by decide) (by decide)) dX16_houseTold_68 (fun H locs hP hD hS => ?_)
  have hP : va_P (dC, dI) vwCl [(h0, .inr (23, [v0, .ref h1, .int 20, .int 60, .ref (g 34), v1, .int 0, .int 0, .int 0])), (q1, .inr (5, [.int 0, .int (-1), .int 0, .ref h1])), (q3, .inl (cyq3, 8, .inl (upd (upd (upd (fun _ => 0) 0 0) 1 20) 2 60))), (h1, .inr (6, [.int 0, v2, .int 0]))] H := hP
  have hD : va_D A [(h0, .inr (23, [v0, .ref h1, .int 20, .int 60, .ref (g 34), v1, .int 0, .int 0, .int 0])), (q1, .inr (5, [.int 0, .int (-1), .int 0, .ref h1])), (q3, .inl (cyq3, 8, .inl (upd (upd (upd (fun _ => 0) 0 0) 1 20) 2 60))), (h1, .inr (6, [.int 0, v2, .int 0]))] := hD
  refine lv_dup hx hb dX16_houseTold_69 rfl ?_
  refine lv_iconst (v := 3) hx hb dX16_houseTold_70 (by decide) ?_
  refine lv_aload_n hx hb dX16_houseTold_71 rfl (lv_at hl 2 rfl) ?_
  refine va_get (D := (dC, dI)) (ci := 23) (v := .ref (g 34)) (C := RX16) (T := TX16) (N := 9) hx hb hts (by decide +kernel) hown hK hP 0 rfl rfl 4 (by decide) (hts (.fieldLink RX16 25 "NestprintModel" "typed" "Ljava/lang/String;") (by decide +kernel)) (fun _ h9 => h9) rfl dX16_houseTold_72 ?_
  have hPc := hP.sub (ws' := []) [] rfl
  have hDc := hD.sub (ws' := []) [] (by decide) rfl
  have hKc := hK.sub (tys' := []) [] rfl
  have hFc := va_free (wc := []) hD hS hA [] rfl
  refine va_calli (va_runV (As := []) (rest := [.int 3, .ref q3, .ref q3]) ⟨hx, hb, hml, hown, hts⟩ (kJ0_length_8abf5 l dC dI g H.size  ) (cwV 0 hts gX16_houseTold_J0_length_8abf5 rfl rfl rfl (by decide +kernel) ⟨Nat.le_of_ble_eq_true rfl, Nat.le_of_ble_eq_true rfl⟩) ⟨fun a U gg mk q => by obtain ⟨q0, q1, qP, qK, qD, qF⟩ := q; exact ⟨q0, q1, qP, va_K.moved (u := U) (U := U.calling gg mk a) (Vm.Alike.refl U.vm) qK, qD, ns_same qF⟩, va_Orecv (ns_f37 hF) hS, fun U hU hW => ⟨rfl, by rw [hU], by rw [hU]; exact hPc, va_K.moved hW.alike hKc, hDc.weaken (fun _ _ _ _ => trivial), ns_call hF hS hFc hU hW⟩⟩ rfl rfl hl.1 rfl (lv_room (Nat.le_of_ble_eq_true rfl)) dX16_houseTold_75 ⟨Nat.le_of_ble_eq_true rfl, Nat.le_of_ble_eq_true rfl⟩) hS (fun q _ h => hFc q h) hFc (fun r9 u t H1 locs ht hvm hw hB hz1 hk1 hS => ?_)
  obtain rfl := hw
  obtain ⟨hP1, hK1, hD1⟩ := hB
  rw [ht] at hP1
  have hK1 := va_K.moved hvm.symm hK1
  obtain ⟨hP, hD⟩ := va_join (wr := [(h0, .inr (23, [v0, .ref h1, .int 20, .int 60, .ref (g 34), v1, .int 0, .int 0, .int 0])), (q1, .inr (5, [.int 0, .int (-1), .int 0, .ref h1])), (q3, .inl (cyq3, 8, .inl (upd (upd (upd (fun _ => 0) 0 0) 1 20) 2 60))), (h1, .inr (6, [.int 0, v2, .int 0]))]) (w1 := []) hP hD [] [0, 1, 2, 3] rfl rfl (by decide) (by decide) hk1 hFc hP1 hD1
  have hK := (hK.sub (tys' := [(cyq3, .int)]) [0] rfl).app hK1
  generalize H1 = H at hP hS ⊢
  have hP : va_P (dC, dI) vwCl [(h0, .inr (23, [v0, .ref h1, .int 20, .int 60, .ref (g 34), v1, .int 0, .int 0, .int 0])), (q1, .inr (5, [.int 0, .int (-1), .int 0, .ref h1])), (q3, .inl (cyq3, 8, .inl (upd (upd (upd (fun _ => 0) 0 0) 1 20) 2 60))), (h1, .inr (6, [.int 0, v2, .int 0]))] H := hP
  have hD : va_D A [(h0, .inr (23, [v0, .ref h1, .int 20, .int 60, .ref (g 34), v1, .int 0, .int 0, .int 0])), (q1, .inr (5, [.int 0, .int (-1), .int 0, .ref h1])), (q3, .inl (cyq3, 8, .inl (upd (upd (upd (fun _ => 0) 0 0) 1 20) 2 60))), (h1, .inr (6, [.int 0, v2, .int 0]))] := hD
  have hK : va_K (dC, dI) vwCl [(cyq3, .int)] s := hK
  refine W.widen (k := 2) (n := 12) (Nat.le_of_ble_eq_true rfl) (Nat.le_of_ble_eq_true rfl) ?_
  refine va_iast hx hb hK hP hD hS 2 0 rfl rfl (vp_in_nI (n := 3) (by decide) (by decide)) dX16_houseTold_78 (fun H locs hP hD hS => ?_)
  have hP : va_P (dC, dI) vwCl [(h0, .inr (23, [v0, .ref h1, .int 20, .int 60, .ref (g 34), v1, .int 0, .int 0, .int 0])), (q1, .inr (5, [.int 0, .int (-1), .int 0, .ref h1])), (q3, .inl (cyq3, 8, .inl (upd (upd (upd (upd (fun _ => 0) 0 0) 1 20) 2 60) 3 0))), (h1, .inr (6, [.int 0, v2, .int 0]))] H := hP
  have hD : va_D A [(h0, .inr (23, [v0, .ref h1, .int 20, .int 60, .ref (g 34), v1, .int 0, .int 0, .int 0])), (q1, .inr (5, [.int 0, .int (-1), .int 0, .ref h1])), (q3, .inl (cyq3, 8, .inl (upd (upd (upd (upd (fun _ => 0) 0 0) 1 20) 2 60) 3 0))), (h1, .inr (6, [.int 0, v2, .int 0]))] := hD
  refine lv_dup hx hb dX16_houseTold_79 rfl ?_
  refine lv_iconst (v := 4) hx hb dX16_houseTold_80 (by decide) ?_
  refine lv_aload_n hx hb dX16_houseTold_81 rfl (lv_at hl 2 rfl) ?_
  refine va_get (D := (dC, dI)) (ci := 23) (v := .int 0) (C := RX16) (T := TX16) (N := 9) hx hb hts (by decide +kernel) hown hK hP 0 rfl rfl 6 (by decide) (hts (.fieldLink RX16 272 "NestprintModel" "counted" "I") (by decide +kernel)) (fun _ h9 => h9) rfl dX16_houseTold_82 ?_
  refine va_iast hx hb hK hP hD hS 2 0 rfl rfl (vp_in_nI (n := 4) (by decide) (by decide)) dX16_houseTold_85 (fun H locs hP hD hS => ?_)
  have hP : va_P (dC, dI) vwCl [(h0, .inr (23, [v0, .ref h1, .int 20, .int 60, .ref (g 34), v1, .int 0, .int 0, .int 0])), (q1, .inr (5, [.int 0, .int (-1), .int 0, .ref h1])), (q3, .inl (cyq3, 8, .inl (upd (upd (upd (upd (upd (fun _ => 0) 0 0) 1 20) 2 60) 3 0) 4 0))), (h1, .inr (6, [.int 0, v2, .int 0]))] H := hP
  have hD : va_D A [(h0, .inr (23, [v0, .ref h1, .int 20, .int 60, .ref (g 34), v1, .int 0, .int 0, .int 0])), (q1, .inr (5, [.int 0, .int (-1), .int 0, .ref h1])), (q3, .inl (cyq3, 8, .inl (upd (upd (upd (upd (upd (fun _ => 0) 0 0) 1 20) 2 60) 3 0) 4 0))), (h1, .inr (6, [.int 0, v2, .int 0]))] := hD
  refine lv_dup hx hb dX16_houseTold_86 rfl ?_
  refine lv_iconst (v := 5) hx hb dX16_houseTold_87 (by decide) ?_
  refine lv_aload_n hx hb dX16_houseTold_88 rfl (lv_at hl 2 rfl) ?_
  refine va_get (D := (dC, dI)) (ci := 23) (v := .int 0) (C := RX16) (T := TX16) (N := 9) hx hb hts (by decide +kernel) hown hK hP 0 rfl rfl 7 (by decide) (hts (.fieldLink RX16 275 "NestprintModel" "knocks" "I") (by decide +kernel)) (fun _ h9 => h9) rfl dX16_houseTold_89 ?_
  refine va_iast hx hb hK hP hD hS 2 0 rfl rfl (vp_in_nI (n := 5) (by decide) (by decide)) dX16_houseTold_92 (fun H locs hP hD hS => ?_)
  have hP : va_P (dC, dI) vwCl [(h0, .inr (23, [v0, .ref h1, .int 20, .int 60, .ref (g 34), v1, .int 0, .int 0, .int 0])), (q1, .inr (5, [.int 0, .int (-1), .int 0, .ref h1])), (q3, .inl (cyq3, 8, .inl (upd (upd (upd (upd (upd (upd (fun _ => 0) 0 0) 1 20) 2 60) 3 0) 4 0) 5 0))), (h1, .inr (6, [.int 0, v2, .int 0]))] H := hP
  have hD : va_D A [(h0, .inr (23, [v0, .ref h1, .int 20, .int 60, .ref (g 34), v1, .int 0, .int 0, .int 0])), (q1, .inr (5, [.int 0, .int (-1), .int 0, .ref h1])), (q3, .inl (cyq3, 8, .inl (upd (upd (upd (upd (upd (upd (fun _ => 0) 0 0) 1 20) 2 60) 3 0) 4 0) 5 0))), (h1, .inr (6, [.int 0, v2, .int 0]))] := hD
  refine lv_dup hx hb dX16_houseTold_93 rfl ?_
  refine lv_bipush (v := 6) hx hb dX16_houseTold_94 (by decide) ?_
  refine lv_aload_n hx hb dX16_houseTold_96 rfl (lv_at hl 2 rfl) ?_
  refine va_get (D := (dC, dI)) (ci := 23) (v := .int 0) (C := RX16) (T := TX16) (N := 9) hx hb hts (by decide +kernel) hown hK hP 0 rfl rfl 8 (by decide) (hts (.fieldLink RX16 193 "NestprintModel" "ever" "I") (by decide +kernel)) (fun _ h9 => h9) rfl dX16_houseTold_97 ?_
  refine va_iast hx hb hK hP hD hS 2 0 rfl rfl (vp_in_nI (n := 6) (by decide) (by decide)) dX16_houseTold_100 (fun H locs hP hD hS => ?_)
  have hP : va_P (dC, dI) vwCl [(h0, .inr (23, [v0, .ref h1, .int 20, .int 60, .ref (g 34), v1, .int 0, .int 0, .int 0])), (q1, .inr (5, [.int 0, .int (-1), .int 0, .ref h1])), (q3, .inl (cyq3, 8, .inl (upd (upd (upd (upd (upd (upd (upd (fun _ => 0) 0 0) 1 20) 2 60) 3 0) 4 0) 5 0) 6 0))), (h1, .inr (6, [.int 0, v2, .int 0]))] H := hP
  have hD : va_D A [(h0, .inr (23, [v0, .ref h1, .int 20, .int 60, .ref (g 34), v1, .int 0, .int 0, .int 0])), (q1, .inr (5, [.int 0, .int (-1), .int 0, .ref h1])), (q3, .inl (cyq3, 8, .inl (upd (upd (upd (upd (upd (upd (upd (fun _ => 0) 0 0) 1 20) 2 60) 3 0) 4 0) 5 0) 6 0))), (h1, .inr (6, [.int 0, v2, .int 0]))] := hD
  refine lv_dup hx hb dX16_houseTold_101 rfl ?_
  refine lv_bipush (v := 7) hx hb dX16_houseTold_102 (by decide) ?_
  refine lv_iload_n hx hb dX16_houseTold_104 rfl (lv_at hl 1 rfl) ?_
  refine va_iast hx hb hK hP hD hS 2 0 rfl rfl (vp_in_nI (n := 7) (by decide) (by decide)) dX16_houseTold_105 (fun H locs hP hD hS => ?_)
  have hP : va_P (dC, dI) vwCl [(h0, .inr (23, [v0, .ref h1, .int 20, .int 60, .ref (g 34), v1, .int 0, .int 0, .int 0])), (q1, .inr (5, [.int 0, .int (-1), .int 0, .ref h1])), (q3, .inl (cyq3, 8, .inl (upd (upd (upd (upd (upd (upd (upd (upd (fun _ => 0) 0 0) 1 20) 2 60) 3 0) 4 0) 5 0) 6 0) 7 0))), (h1, .inr (6, [.int 0, v2, .int 0]))] H := hP
  have hD : va_D A [(h0, .inr (23, [v0, .ref h1, .int 20, .int 60, .ref (g 34), v1, .int 0, .int 0, .int 0])), (q1, .inr (5, [.int 0, .int (-1), .int 0, .ref h1])), (q3, .inl (cyq3, 8, .inl (upd (upd (upd (upd (upd (upd (upd (upd (fun _ => 0) 0 0) 1 20) 2 60) 3 0) 4 0) 5 0) 6 0) 7 0))), (h1, .inr (6, [.int 0, v2, .int 0]))] := hD
  refine lv_astore_n (lv' := [(3, .ref q3), (2, .int 0), (0, .ref h0), (1, .int 7)]) hx hb dX16_houseTold_106 rfl hl (by decide) rfl (fun ls hl => ?_)
  refine lv_aload_n hx hb dX16_houseTold_107 rfl (lv_at hl 0 rfl) ?_
  refine lv_iload_n hx hb dX16_houseTold_108 rfl (lv_at hl 3 rfl) ?_
  refine va_iald hx hb hK hP 2 0 rfl rfl (vp_in_nI (n := 7) (by decide) (by decide)) dX16_houseTold_109 ?_
  refine lv_topi (fun y4 ey4 => ?_)
  obtain rfl : y4 = 0 := ey4
  have hP9 := hP.sub (ws' := [(h0, .inr (23, [v0, .ref h1, .int 20, .int 60, .ref (g 34), v1, .int 0, .int 0, .int 0])), (q1, .inr (5, [.int 0, .int (-1), .int 0, .ref h1])), (q3, .inl (cyq3, 8, .inl (upd (upd (upd (upd (upd (upd (upd (upd (fun _ => 0) 0 0) 1 20) 2 60) 3 0) 4 0) 5 0) 6 0) 7 0))), (h1, .inr (6, [.int 0, v2, .int 0]))]) [0, 1, 2, 3] rfl
  have hD9 := hD.sub (ws' := [(h0, .inr (23, [v0, .ref h1, .int 20, .int 60, .ref (g 34), v1, .int 0, .int 0, .int 0])), (q1, .inr (5, [.int 0, .int (-1), .int 0, .ref h1])), (q3, .inl (cyq3, 8, .inl (upd (upd (upd (upd (upd (upd (upd (upd (fun _ => 0) 0 0) 1 20) 2 60) 3 0) 4 0) 5 0) 6 0) 7 0))), (h1, .inr (6, [.int 0, v2, .int 0]))]) [0, 1, 2, 3] (by decide) rfl
  have hK9 := hK.sub (tys' := [(cyq3, .int)]) [0] rfl
  refine W.widen (k := 2) (n := 12) (Nat.le_of_ble_eq_true rfl) (Nat.le_of_ble_eq_true rfl) ?_
  exact W.iret (v := 0) hx hb hr (fun t ht hW => ⟨⟨_, (), rfl, rfl, q1, q3, cyq3, by rw [ht]; exact hP9, va_K.moved hW.alike hK9, hD9⟩, hS.F ht⟩) hS.2.2 dX16_houseTold_110
set_option maxHeartbeats 4000000 in
set_option maxRecDepth 100000 in
theorem kX16_house_9 (l : Launch) (dC : Nat → ClassId) (dI : Nat → Nat → Nat) (g : Nat → Nat) (sz : Nat) (h0 : Nat) (h1 : Nat) (v0 : Value) (v1 : Value) (v2 : Value) : Met l yX16_house wsX16_house ({ frames := 4, cells := 2, slots := 12, locals := 77 }) (va_Pc [.ref h0, .int 7] (fun U => U.heap.size = sz ∧ va_P (dC, dI) vwCl [(h0, .inr (23, [v0, .ref h1, .int 20, .int 60, .ref (g 34), v1, .int 0, .int 0, .int 0])), (h1, .inr (6, [.int 0, v2, .int 0]))] U.heap ∧ va_K (dC, dI) vwCl [] U ∧ va_D (fun _ => True) [(h0, .inr (23, [v0, .ref h1, .int 20, .int 60, .ref (g 34), v1, .int 0, .int 0, .int 0])), (h1, .inr (6, [.int 0, v2, .int 0]))] ∧ ns_F g (va_A [(h0, .inr (23, [v0, .ref h1, .int 20, .int 60, .ref (g 34), v1, .int 0, .int 0, .int 0])), (h1, .inr (6, [.int 0, v2, .int 0]))] sz) U U.heap)) (va_Qi (fun (r : Int32) (_ : Unit) => r = 0) (fun _ t => ∃ k0 : Nat, ∃ k1 : Nat, ∃ kc2 : ClassId, va_P (dC, dI) vwCl [(h0, .inr (23, [.int 0, .ref h1, .int 20, .int 60, .ref (g 34), v1, .int 0, .int 0, .int 0])), (k0, .inr (5, [.int 0, .int (-1), .int 0, .ref h1])), (k1, .inl (kc2, 8, .inl (upd (upd (upd (upd (upd (upd (upd (upd (fun _ => 0) 0 0) 1 20) 2 60) 3 0) 4 0) 5 0) 6 0) 7 0))), (h1, .inr (6, [.int 0, v2, .int 0]))] t.heap ∧ va_K (dC, dI) vwCl [(kc2, .int)] t ∧ va_D (va_A [(h0, .inr (23, [v0, .ref h1, .int 20, .int 60, .ref (g 34), v1, .int 0, .int 0, .int 0])), (h1, .inr (6, [.int 0, v2, .int 0]))] sz) [(h0, .inr (23, [.int 0, .ref h1, .int 20, .int 60, .ref (g 34), v1, .int 0, .int 0, .int 0])), (k0, .inr (5, [.int 0, .int (-1), .int 0, .ref h1])), (k1, .inl (kc2, 8, .inl (upd (upd (upd (upd (upd (upd (upd (upd (fun _ => 0) 0 0) 1 20) 2 60) 3 0) 4 0) 5 0) 6 0) 7 0))), (h1, .inr (6, [.int 0, v2, .int 0]))]) (va_A [(h0, .inr (23, [v0, .ref h1, .int 20, .int 60, .ref (g 34), v1, .int 0, .int 0, .int 0])), (h1, .inr (6, [.int 0, v2, .int 0]))] sz)) 2 12 (va_A [(h0, .inr (23, [v0, .ref h1, .int 20, .int 60, .ref (g 34), v1, .int 0, .int 0, .int 0])), (h1, .inr (6, [.int 0, v2, .int 0]))] sz) := by
  refine Met.ofW (cc := cX16_house) (maxL := 2) (ret := (some .int)) (by decide) rfl ?_
  intro p e s m args below meth c s₁ B hml hv
  obtain ⟨rfl, hsz, hP, hK, hD0, hF⟩ := hv
  have hx := B.exec
  have hb := B.bytes
  have hr := B.returns
  have hts := atoms_spec (ws := wsX16_house) B.pre
  have hown : s.vm.findClass RX16 = some m.cls := findClass_of_methodNamed B.named
  have hlocks := B.notSynchronized
  subst hsz
  have hD := hD0.self (sz := s.heap.size)
  generalize hAe : va_A [(h0, .inr (23, [v0, .ref h1, .int 20, .int 60, .ref (g 34), v1, .int 0, .int 0, .int 0])), (h1, .inr (6, [.int 0, v2, .int 0]))] s.heap.size = A at hD hF ⊢
  have hA : ∀ q : Nat, s.heap.size ≤ q → A q := fun q h => by rw [← hAe]; exact Or.inr h
  have hS : va_S A s.heap s.heap [] := va_S.rf
  have hP : va_P (dC, dI) vwCl [(h0, .inr (23, [v0, .ref h1, .int 20, .int 60, .ref (g 34), v1, .int 0, .int 0, .int 0])), (h1, .inr (6, [.int 0, v2, .int 0]))] s.heap := hP
  have hl := lv_entry ([.ref h0, .int 7]) (n := 2) (Nat.le_of_ble_eq_true rfl)
  rw [lg_entry_eq]
  generalize (lg_sl ([.ref h0, .int 7]) ++ List.replicate (2 - (lg_sl ([.ref h0, .int 7])).length) Slot.unset).toArray = ls at hl ⊢
  have hl : lv_has ls 2 [(0, .ref h0), (1, .int 7)] := hl
  refine lv_aload_n hx hb dX16_house_0 rfl (lv_at hl 0 rfl) ?_
  refine lv_iload_n hx hb dX16_house_1 rfl (lv_at hl 1 rfl) ?_
  refine lv_iconst (v := 0) hx hb dX16_house_2 (by decide) ?_
  refine lv_bipush (v := 7) hx hb dX16_house_3 (by decide) ?_
  have hPc := hP.sub (ws' := []) [] rfl
  have hDc := hD.sub (ws' := []) [] (by decide) rfl
  have hKc := hK.sub (tys' := []) [] rfl
  have hFc := va_free (wc := []) hD hS hA [] rfl
  refine va_calli (va_runS (As := [.int 7, .int 0, .int 7]) (rest := [.ref h0]) ⟨hx, hb, hml, hown, hts⟩ (kX16_isIn_23 l dC dI g s.heap.size  ) (va_cwS 3 hts gX16_house_X16_isIn rfl rfl rfl (by decide +kernel) ⟨Nat.le_of_ble_eq_true rfl, Nat.le_of_ble_eq_true rfl⟩) ⟨fun a U gg mk q => by obtain ⟨q0, q1, qP, qK, qD, qF⟩ := q; exact ⟨q0, q1, qP, va_K.moved (u := U) (U := U.calling gg mk a) (Vm.Alike.refl U.vm) qK, qD, ns_same qF⟩, fun U hU hW => ⟨rfl, by rw [hU], by rw [hU]; exact hPc, va_K.moved hW.alike hKc, hDc.weaken (fun _ _ _ _ => trivial), ns_call hF hS hFc hU hW⟩⟩ rfl rfl hl.1 rfl (lv_room (Nat.le_of_ble_eq_true rfl)) dX16_house_5 ⟨Nat.le_of_ble_eq_true rfl, Nat.le_of_ble_eq_true rfl⟩) hS (fun q _ h => hFc q h) hFc (fun r9 u t H1 locs ht hvm hw hB hz1 hk1 hS => ?_)
  obtain rfl := hw
  obtain ⟨hP1, hK1, hD1⟩ := hB
  rw [ht] at hP1
  have hK1 := va_K.moved hvm.symm hK1
  obtain ⟨hP, hD⟩ := va_join (wr := [(h0, .inr (23, [v0, .ref h1, .int 20, .int 60, .ref (g 34), v1, .int 0, .int 0, .int 0])), (h1, .inr (6, [.int 0, v2, .int 0]))]) (w1 := []) hP hD [] [0, 1] rfl rfl (by decide) (by decide) hk1 hFc hP1 hD1
  have hK := (hK.sub (tys' := []) [] rfl).app hK1
  generalize H1 = H at hP hS ⊢
  have hP : va_P (dC, dI) vwCl [(h0, .inr (23, [v0, .ref h1, .int 20, .int 60, .ref (g 34), v1, .int 0, .int 0, .int 0])), (h1, .inr (6, [.int 0, v2, .int 0]))] H := hP
  have hD : va_D A [(h0, .inr (23, [v0, .ref h1, .int 20, .int 60, .ref (g 34), v1, .int 0, .int 0, .int 0])), (h1, .inr (6, [.int 0, v2, .int 0]))] := hD
  have hK : va_K (dC, dI) vwCl [] s := hK
  refine W.widen (k := 0) (n := 0) (Nat.le_of_ble_eq_true rfl) (Nat.le_of_ble_eq_true rfl) ?_
  refine lv_if_ne (tgt := 15) hx hb dX16_house_8 (by decide) (fun c1 => ?_) (fun c1 => absurd c1 (by decide))
  refine lv_iconst (v := 0) hx hb dX16_house_15 (by decide) ?_
  refine lv_iconst (v := 1) hx hb dX16_house_16 (by decide) ?_
  have hPc := hP.sub (ws' := [(h0, .inr (23, [v0, .ref h1, .int 20, .int 60, .ref (g 34), v1, .int 0, .int 0, .int 0]))]) [0] rfl
  have hDc := hD.sub (ws' := [(h0, .inr (23, [v0, .ref h1, .int 20, .int 60, .ref (g 34), v1, .int 0, .int 0, .int 0]))]) [0] (by decide) rfl
  have hKc := hK.sub (tys' := []) [] rfl
  have hFc := va_free (wc := [(h0, .inr (23, [v0, .ref h1, .int 20, .int 60, .ref (g 34), v1, .int 0, .int 0, .int 0]))]) hD hS hA [0] rfl
  refine va_calli (va_runV (As := [.int 0, .int 1]) (rest := []) ⟨hx, hb, hml, hown, hts⟩ (kX16_start_2 l dC dI g H.size h0 v0 (.ref h1) (.int 20) (.int 60) (.ref (g 34)) v1 (.int 0) (.int 0) (.int 0) ) (cwV 2 hts gX16_house_X16_start rfl rfl rfl (by decide +kernel) ⟨Nat.le_of_ble_eq_true rfl, Nat.le_of_ble_eq_true rfl⟩) ⟨fun a U gg mk q => by obtain ⟨q0, q1, qP, qK, qD, qF⟩ := q; exact ⟨q0, q1, qP, va_K.moved (u := U) (U := U.calling gg mk a) (Vm.Alike.refl U.vm) qK, qD, ns_same qF⟩, va_recv hK hP (ci := 23) (q0 := 0) rfl rfl, fun U hU hW => ⟨rfl, by rw [hU], by rw [hU]; exact hPc, va_K.moved hW.alike hKc, hDc.weaken (fun _ _ _ _ => trivial), ns_call hF hS hFc hU hW⟩⟩ rfl rfl hl.1 rfl (lv_room (Nat.le_of_ble_eq_true rfl)) dX16_house_17 ⟨Nat.le_of_ble_eq_true rfl, Nat.le_of_ble_eq_true rfl⟩) hS (fun q _ h => hFc q h) hFc (fun r9 u t H1 locs ht hvm hw hB hz1 hk1 hS => ?_)
  obtain rfl := hw
  obtain ⟨hP1, hK1, hD1⟩ := hB
  rw [ht] at hP1
  have hK1 := va_K.moved hvm.symm hK1
  obtain ⟨hP, hD⟩ := va_join (wr := [(h1, .inr (6, [.int 0, v2, .int 0]))]) (w1 := [(h0, .inr (23, [.int 0, .ref h1, .int 20, .int 60, .ref (g 34), v1, .int 0, .int 0, .int 0]))]) hP hD [0] [1] rfl rfl (by decide) (by decide) hk1 hFc hP1 hD1
  have hK := (hK.sub (tys' := []) [] rfl).app hK1
  generalize H1 = H at hP hS ⊢
  have hP : va_P (dC, dI) vwCl [(h1, .inr (6, [.int 0, v2, .int 0])), (h0, .inr (23, [.int 0, .ref h1, .int 20, .int 60, .ref (g 34), v1, .int 0, .int 0, .int 0]))] H := hP
  have hD : va_D A [(h1, .inr (6, [.int 0, v2, .int 0])), (h0, .inr (23, [.int 0, .ref h1, .int 20, .int 60, .ref (g 34), v1, .int 0, .int 0, .int 0]))] := hD
  have hK : va_K (dC, dI) vwCl [] s := hK
  refine W.widen (k := 0) (n := 0) (Nat.le_of_ble_eq_true rfl) (Nat.le_of_ble_eq_true rfl) ?_
  refine lv_if_eq (tgt := 27) hx hb dX16_house_20 (by decide) (fun c2 => ?_) (fun c2 => absurd (by decide) c2)
  refine lv_aload_n hx hb dX16_house_27 rfl (lv_at hl 0 rfl) ?_
  refine lv_iload_n hx hb dX16_house_28 rfl (lv_at hl 1 rfl) ?_
  have hPc := hP.sub (ws' := [(h0, .inr (23, [.int 0, .ref h1, .int 20, .int 60, .ref (g 34), v1, .int 0, .int 0, .int 0])), (h1, .inr (6, [.int 0, v2, .int 0]))]) [1, 0] rfl
  have hDc := hD.sub (ws' := [(h0, .inr (23, [.int 0, .ref h1, .int 20, .int 60, .ref (g 34), v1, .int 0, .int 0, .int 0])), (h1, .inr (6, [.int 0, v2, .int 0]))]) [1, 0] (by decide) rfl
  have hKc := hK.sub (tys' := []) [] rfl
  have hFc := va_free (wc := [(h0, .inr (23, [.int 0, .ref h1, .int 20, .int 60, .ref (g 34), v1, .int 0, .int 0, .int 0])), (h1, .inr (6, [.int 0, v2, .int 0]))]) hD hS hA [1, 0] rfl
  refine va_calli (va_runV (As := [.int 7]) (rest := []) ⟨hx, hb, hml, hown, hts⟩ (kX16_houseTold_8 l dC dI g H.size h0 h1 (.int 0) v1 v2 ) (cwV 1 hts gX16_house_X16_houseTold rfl rfl rfl (by decide +kernel) ⟨Nat.le_of_ble_eq_true rfl, Nat.le_of_ble_eq_true rfl⟩) ⟨fun a U gg mk q => by obtain ⟨q0, q1, qP, qK, qD, qF⟩ := q; exact ⟨q0, q1, qP, va_K.moved (u := U) (U := U.calling gg mk a) (Vm.Alike.refl U.vm) qK, qD, ns_same qF⟩, va_recv hK hP (ci := 23) (q0 := 1) rfl rfl, fun U hU hW => ⟨rfl, by rw [hU], by rw [hU]; exact hPc, va_K.moved hW.alike hKc, hDc.weaken (fun _ _ _ _ => trivial), ns_call hF hS hFc hU hW⟩⟩ rfl rfl hl.1 rfl (lv_room (Nat.le_of_ble_eq_true rfl)) dX16_house_29 ⟨Nat.le_of_ble_eq_true rfl, Nat.le_of_ble_eq_true rfl⟩) hS (fun q _ h => hFc q h) hFc (fun r9 u t H1 locs ht hvm hw hB hz1 hk1 hS => ?_)
  obtain rfl := hw
  obtain ⟨q3, q4, cy5, hP1, hK1, hD1⟩ := hB
  rw [ht] at hP1
  have hK1 := va_K.moved hvm.symm hK1
  obtain ⟨hP, hD⟩ := va_join (wr := []) (w1 := [(h0, .inr (23, [.int 0, .ref h1, .int 20, .int 60, .ref (g 34), v1, .int 0, .int 0, .int 0])), (q3, .inr (5, [.int 0, .int (-1), .int 0, .ref h1])), (q4, .inl (cy5, 8, .inl (upd (upd (upd (upd (upd (upd (upd (upd (fun _ => 0) 0 0) 1 20) 2 60) 3 0) 4 0) 5 0) 6 0) 7 0))), (h1, .inr (6, [.int 0, v2, .int 0]))]) hP hD [1, 0] [] rfl rfl (by decide) (by decide) hk1 hFc hP1 hD1
  have hK := (hK.sub (tys' := []) [] rfl).app hK1
  generalize H1 = H at hP hS ⊢
  have hP : va_P (dC, dI) vwCl [(h0, .inr (23, [.int 0, .ref h1, .int 20, .int 60, .ref (g 34), v1, .int 0, .int 0, .int 0])), (q3, .inr (5, [.int 0, .int (-1), .int 0, .ref h1])), (q4, .inl (cy5, 8, .inl (upd (upd (upd (upd (upd (upd (upd (upd (fun _ => 0) 0 0) 1 20) 2 60) 3 0) 4 0) 5 0) 6 0) 7 0))), (h1, .inr (6, [.int 0, v2, .int 0]))] H := hP
  have hD : va_D A [(h0, .inr (23, [.int 0, .ref h1, .int 20, .int 60, .ref (g 34), v1, .int 0, .int 0, .int 0])), (q3, .inr (5, [.int 0, .int (-1), .int 0, .ref h1])), (q4, .inl (cy5, 8, .inl (upd (upd (upd (upd (upd (upd (upd (upd (fun _ => 0) 0 0) 1 20) 2 60) 3 0) 4 0) 5 0) 6 0) 7 0))), (h1, .inr (6, [.int 0, v2, .int 0]))] := hD
  have hK : va_K (dC, dI) vwCl [(cy5, .int)] s := hK
  refine W.widen (k := 2) (n := 12) (Nat.le_of_ble_eq_true rfl) (Nat.le_of_ble_eq_true rfl) ?_
  have hP9 := hP.sub (ws' := [(h0, .inr (23, [.int 0, .ref h1, .int 20, .int 60, .ref (g 34), v1, .int 0, .int 0, .int 0])), (q3, .inr (5, [.int 0, .int (-1), .int 0, .ref h1])), (q4, .inl (cy5, 8, .inl (upd (upd (upd (upd (upd (upd (upd (upd (fun _ => 0) 0 0) 1 20) 2 60) 3 0) 4 0) 5 0) 6 0) 7 0))), (h1, .inr (6, [.int 0, v2, .int 0]))]) [0, 1, 2, 3] rfl
  have hD9 := hD.sub (ws' := [(h0, .inr (23, [.int 0, .ref h1, .int 20, .int 60, .ref (g 34), v1, .int 0, .int 0, .int 0])), (q3, .inr (5, [.int 0, .int (-1), .int 0, .ref h1])), (q4, .inl (cy5, 8, .inl (upd (upd (upd (upd (upd (upd (upd (upd (fun _ => 0) 0 0) 1 20) 2 60) 3 0) 4 0) 5 0) 6 0) 7 0))), (h1, .inr (6, [.int 0, v2, .int 0]))]) [0, 1, 2, 3] (by decide) rfl
  have hK9 := hK.sub (tys' := [(cy5, .int)]) [0] rfl
  refine W.widen (k := 2) (n := 12) (Nat.le_of_ble_eq_true rfl) (Nat.le_of_ble_eq_true rfl) ?_
  exact W.iret (v := 0) hx hb hr (fun t ht hW => ⟨⟨_, (), rfl, rfl, q3, q4, cy5, by rw [ht]; exact hP9, va_K.moved hW.alike hK9, hD9⟩, hS.F ht⟩) hS.2.2 dX16_house_32
set_option maxHeartbeats 4000000 in
set_option maxRecDepth 100000 in
theorem kX9_house_10 (l : Launch) (dC : Nat → ClassId) (dI : Nat → Nat → Nat) (g : Nat → Nat) (sz : Nat) (h0 : Nat) (x0 : Int32) (ex0 : (8 : Int) ≤ x0.toInt ∧ x0.toInt ≤ (2147483647 : Int)) (hlt : l.stackTraces = false) : vx_Met l yX9_house wsX9_house ({ frames := 6, cells := 1, slots := 6, locals := 82 }) (va_Pc [.ref h0, .int x0] (fun U => U.heap.size = sz ∧ va_P (dC, dI) vwCl [] U.heap ∧ va_K (dC, dI) vwCl [] U ∧ va_D (fun _ => True) [] ∧ ns_F g (va_A [] sz) U U.heap)) (va_Qv (fun _ : Unit => False) (fun _ _ => True) (va_A [] sz)) (vx_X (fun _ : Unit => True) (fun E _ _ => E = "java/lang/IllegalArgumentException") (va_A [] sz)) 1 6 (va_A [] sz) := by
  refine vx_ofW (cc := cX9_house) (maxL := 2) (ret := (some .int)) (by decide) rfl ?_
  intro p e s m args below meth c s₁ B hml hnox hv
  obtain ⟨rfl, hsz, hP, hK, hD0, hF⟩ := hv
  have hx := B.exec
  have hb := B.bytes
  have hr := B.returns
  have hts := atoms_spec (ws := wsX9_house) B.pre
  have hown : s.vm.findClass RX9 = some m.cls := findClass_of_methodNamed B.named
  have hlocks := B.notSynchronized
  subst hsz
  have hD := hD0.self (sz := s.heap.size)
  generalize hAe : va_A [] s.heap.size = A at hD hF ⊢
  have hA : ∀ q : Nat, s.heap.size ≤ q → A q := fun q h => by rw [← hAe]; exact Or.inr h
  have hS : va_S A s.heap s.heap [] := va_S.rf
  have hP : va_P (dC, dI) vwCl [] s.heap := hP
  have hl := lv_entry ([.ref h0, .int x0]) (n := 2) (Nat.le_of_ble_eq_true rfl)
  rw [lg_entry_eq]
  generalize (lg_sl ([.ref h0, .int x0]) ++ List.replicate (2 - (lg_sl ([.ref h0, .int x0])).length) Slot.unset).toArray = ls at hl ⊢
  have hl : lv_has ls 2 [(0, .ref h0), (1, .int x0)] := hl
  refine lv_iload_n hx hb dX9_house_0 rfl (lv_at hl 1 rfl) ?_
  refine lv_if_lt (tgt := 10) hx hb dX9_house_1 (by decide) (fun c1 => absurd c1 (fun z => absurd (Int32.lt_iff_toInt_lt.mp z : x0.toInt < (0 : Int)) (by omega))) (fun c1 => ?_)
  refine lv_iload_n hx hb dX9_house_4 rfl (lv_at hl 1 rfl) ?_
  refine lv_bipush (v := 7) hx hb dX9_house_5 (by decide) ?_
  refine lv_icmp_le (tgt := 20) hx hb dX9_house_7 (by decide) (fun c2 => absurd c2 (fun z => absurd (Int32.le_iff_toInt_le.mp z : x0.toInt ≤ (7 : Int)) (by omega))) (fun c2 => ?_)
  exact vx_throwS hx hb hlt (text := "what is 0 to 7") (sa := (g 18)) (names := ["java/lang/RuntimeException", "java/lang/Exception"]) hown (by decide) (by decide) (hts (.classLink RX9 100 "java/lang/IllegalArgumentException") (by decide +kernel)) (hts (.initialized "java/lang/IllegalArgumentException") (by decide +kernel)) (ns_f24 hF) (vx_hat (B := [.declares ⟨"java/lang/RuntimeException", "<init>", "(Ljava/lang/String;)V"⟩, .declares ⟨"java/lang/Exception", "<init>", "(Ljava/lang/String;)V"⟩, .declares ⟨"java/lang/Throwable", "<init>", "(Ljava/lang/String;)V"⟩, .castable "java/lang/IllegalArgumentException" "java/lang/IllegalArgumentException"]) (fun w9 h9 => hts w9 (List.mem_cons_of_mem _ ((fun h9 => List.mem_append_left _ (List.mem_append_right _ h9)) h9))) (by decide +kernel) (vx_c (va_Nw.use rfl (ns_f12 hF)) (vx_c (va_Nw.use rfl (ns_f13 hF)) (vx_c (va_Nw.use rfl (ns_f14 hF)) (vx_c (va_Nw.use rfl (ns_f11 hF)) vx_n))))) (by decide +kernel) (ns_f17 hF) (ns_f18 hF) hS (by rw [hml]; exact hl.1) dX9_house_10 dX9_house_13 dX9_house_14 dX9_house_16 dX9_house_19 (fun x hx => (hnox x hx).elim) (Nat.le_of_ble_eq_true rfl) (Nat.le_of_ble_eq_true rfl) (Nat.le_of_ble_eq_true rfl) (Nat.le_of_ble_eq_true rfl) hlocks (fun t9 hal hsz9 hk9 => ⟨(), trivial, rfl, Nat.le_trans hS.1 hsz9, fun q hq1 hq2 => (hk9 q (Nat.lt_of_lt_of_le hq1 hS.1)).trans (hS.2.1 q hq1 hq2)⟩) hS.2.2 (Nat.le_of_ble_eq_true rfl) (Nat.le_of_ble_eq_true rfl)
set_option maxHeartbeats 4000000 in
set_option maxRecDepth 100000 in
theorem kL_house_10 (l : Launch) (dC : Nat → ClassId) (dI : Nat → Nat → Nat) (g : Nat → Nat) (sz : Nat) (h0 : Nat) (x0 : Int32) (h1 : Nat) (v0 : Value) (v1 : Value) (v2 : Value) (v3 : Value) (v4 : Value) (v5 : Value) (v6 : Value) (v7 : Value) (v8 : Value) (v9 : Value) (v10 : Value) (v11 : Value) (v12 : Value) (v13 : Value) (v14 : Value) (v15 : Value) (ex0 : (8 : Int) ≤ x0.toInt ∧ x0.toInt ≤ (2147483647 : Int)) (hlt : l.stackTraces = false) : Met l yL_house wsL_house ({ frames := 7, cells := 1, slots := 6, locals := 103 }) (va_Pc [.ref h0, .int x0, .ref h1] (fun U => U.heap.size = sz ∧ va_P (dC, dI) vwCl [(h0, .inr (16, [v0, v1, v2, v3, v4, v5, v6, v7, v8, v9, v10, v11, v12, v13, v14, v15]))] U.heap ∧ va_K (dC, dI) vwCl [] U ∧ va_D (fun _ => True) [(h0, .inr (16, [v0, v1, v2, v3, v4, v5, v6, v7, v8, v9, v10, v11, v12, v13, v14, v15]))] ∧ ns_F g (va_A [(h0, .inr (16, [v0, v1, v2, v3, v4, v5, v6, v7, v8, v9, v10, v11, v12, v13, v14, v15]))] sz) U U.heap)) (va_Qi (fun (r : Int32) (_ : Unit) => r = 1) (fun _ t => va_P (dC, dI) vwCl [(h0, .inr (16, [v0, v1, v2, v3, v4, v5, v6, v7, v8, v9, v10, v11, v12, v13, v14, v15]))] t.heap ∧ va_K (dC, dI) vwCl [] t ∧ va_D (va_A [(h0, .inr (16, [v0, v1, v2, v3, v4, v5, v6, v7, v8, v9, v10, v11, v12, v13, v14, v15]))] sz) [(h0, .inr (16, [v0, v1, v2, v3, v4, v5, v6, v7, v8, v9, v10, v11, v12, v13, v14, v15]))]) (va_A [(h0, .inr (16, [v0, v1, v2, v3, v4, v5, v6, v7, v8, v9, v10, v11, v12, v13, v14, v15]))] sz)) 1 6 (va_A [(h0, .inr (16, [v0, v1, v2, v3, v4, v5, v6, v7, v8, v9, v10, v11, v12, v13, v14, v15]))] sz) := by
  refine va_MetW (cc := cL_house) (maxL := 4) (ret := (some .int)) (hh := [(0, 10, 13, 19)]) (by decide) rfl ?_
  intro p e s m args below meth c s₁ B hml hv
  obtain ⟨rfl, hsz, hP, hK, hD0, hF⟩ := hv
  have hx := B.exec
  have hb := B.bytes
  have hr := B.returns
  have hts := atoms_spec (ws := wsL_house) B.pre
  have hown : s.vm.findClass RL = some m.cls := findClass_of_methodNamed B.named
  have hlocks := B.notSynchronized
  have htab : c.exceptionTable.toList = [⟨0, 10, 13, 19⟩] := vx_table B (hts _ List.mem_cons_self)
  subst hsz
  have hD := hD0.self (sz := s.heap.size)
  generalize hAe : va_A [(h0, .inr (16, [v0, v1, v2, v3, v4, v5, v6, v7, v8, v9, v10, v11, v12, v13, v14, v15]))] s.heap.size = A at hD hF ⊢
  have hA : ∀ q : Nat, s.heap.size ≤ q → A q := fun q h => by rw [← hAe]; exact Or.inr h
  have hS : va_S A s.heap s.heap [] := va_S.rf
  have hP : va_P (dC, dI) vwCl [(h0, .inr (16, [v0, v1, v2, v3, v4, v5, v6, v7, v8, v9, v10, v11, v12, v13, v14, v15]))] s.heap := hP
  have hl := lv_entry ([.ref h0, .int x0, .ref h1]) (n := 4) (Nat.le_of_ble_eq_true rfl)
  rw [lg_entry_eq]
  generalize (lg_sl ([.ref h0, .int x0, .ref h1]) ++ List.replicate (4 - (lg_sl ([.ref h0, .int x0, .ref h1])).length) Slot.unset).toArray = ls at hl ⊢
  have hl : lv_has ls 4 [(0, .ref h0), (1, .int x0), (2, .ref h1)] := hl
  refine lv_aload_n hx hb dL_house_0 rfl (lv_at hl 2 rfl) ?_
  refine lv_aload_n hx hb dL_house_1 rfl (lv_at hl 0 rfl) ?_
  refine lv_iload_n hx hb dL_house_2 rfl (lv_at hl 1 rfl) ?_
  have hPc := hP.sub (ws' := []) [] rfl
  have hDc := hD.sub (ws' := []) [] (by decide) rfl
  have hKc := hK.sub (tys' := []) [] rfl
  have hFc := va_free (wc := []) hD hS hA [] rfl
  refine vx_callv (vx_runV (As := [.int x0]) (rest := [.ref h1]) ⟨hx, hb, hml, hown, hts⟩ (kX9_house_10 l dC dI g s.heap.size h0 x0 ⟨by omega, by omega⟩ hlt) (cwV 1 hts gL_house_X9_house rfl rfl rfl (by decide +kernel) ⟨Nat.le_of_ble_eq_true rfl, Nat.le_of_ble_eq_true rfl⟩) ⟨fun a U gg mk q => by obtain ⟨q0, q1, qP, qK, qD, qF⟩ := q; exact ⟨q0, q1, qP, va_K.moved (u := U) (U := U.calling gg mk a) (Vm.Alike.refl U.vm) qK, qD, ns_same qF⟩, va_recv hK hP (ci := 16) (q0 := 0) rfl rfl, fun U hU hW => ⟨rfl, by rw [hU], by rw [hU]; exact hPc, va_K.moved hW.alike hKc, hDc.weaken (fun _ _ _ _ => trivial), ns_call hF hS hFc hU hW⟩⟩ rfl rfl hl.1 rfl (lv_room (Nat.le_of_ble_eq_true rfl)) dL_house_3 ⟨Nat.le_of_ble_eq_true rfl, Nat.le_of_ble_eq_true rfl⟩) hS (fun q _ h => hFc q h) hFc (fun q _ h => hFc q h) (fun E ce q9 u t H1 locs ht hvm hw hB hz1 hk1 hS hc1 hc2 hc3 => ?_) (fun _ _ _ _ _ _ hw _ _ _ _ => False.elim hw)
  obtain rfl : E = "java/lang/IllegalArgumentException" := hB
  obtain ⟨hP, hD⟩ := va_join (wr := [(h0, .inr (16, [v0, v1, v2, v3, v4, v5, v6, v7, v8, v9, v10, v11, v12, v13, v14, v15]))]) (w1 := []) hP hD [] [0] rfl rfl (by decide) (by decide) hk1 hFc (fun k q h => by simp at h) ⟨fun i j p q h => by simp at h, fun k q h => by simp at h⟩
  have hK := hK.sub (tys' := []) [] rfl
  generalize H1 = H at hP hS hc1 ⊢
  have hP : va_P (dC, dI) vwCl [(h0, .inr (16, [v0, v1, v2, v3, v4, v5, v6, v7, v8, v9, v10, v11, v12, v13, v14, v15]))] H := hP
  have hD : va_D A [(h0, .inr (16, [v0, v1, v2, v3, v4, v5, v6, v7, v8, v9, v10, v11, v12, v13, v14, v15]))] := hD
  have hK : va_K (dC, dI) vwCl [] s := hK
  refine vx_widen (k := 1) (n := 6) (Nat.le_of_ble_eq_true rfl) (Nat.le_of_ble_eq_true rfl) ?_
  refine vx_catch hown [] ⟨0, 10, 13, 19⟩ [] htab (fun z hz => by simp at hz) (by decide) (by decide) (hts (.classLink RL 19 "java/lang/IllegalArgumentException") (by decide +kernel)) (va_Nw.use rfl (ns_f11 hF)) hc1 hc2 hc3 ?_
  refine W.eq (g2 := F0 m 13 ls [.ref q9]) rfl ?_
  refine lv_astore_n (lv' := [(3, .ref q9), (0, .ref h0), (1, .int x0), (2, .ref h1)]) hx hb dL_house_13 rfl hl (by decide) rfl (fun ls hl => ?_)
  refine lv_iconst (v := 1) hx hb dL_house_14 (by decide) ?_
  have hP9 := hP.sub (ws' := [(h0, .inr (16, [v0, v1, v2, v3, v4, v5, v6, v7, v8, v9, v10, v11, v12, v13, v14, v15]))]) [0] rfl
  have hD9 := hD.sub (ws' := [(h0, .inr (16, [v0, v1, v2, v3, v4, v5, v6, v7, v8, v9, v10, v11, v12, v13, v14, v15]))]) [0] (by decide) rfl
  have hK9 := hK.sub (tys' := []) [] rfl
  refine W.widen (k := 1) (n := 6) (Nat.le_of_ble_eq_true rfl) (Nat.le_of_ble_eq_true rfl) ?_
  exact W.iret (v := 1) hx hb hr (fun t ht hW => ⟨⟨_, (), rfl, rfl, by rw [ht]; exact hP9, va_K.moved hW.alike hK9, hD9⟩, hS.F ht⟩) hS.2.2 dL_house_15
set_option maxHeartbeats 4000000 in
set_option maxRecDepth 100000 in
theorem kX16_isIn_24 (l : Launch) (dC : Nat → ClassId) (dI : Nat → Nat → Nat) (g : Nat → Nat) (sz : Nat) (x0 : Int32) (ex0 : (8 : Int) ≤ x0.toInt ∧ x0.toInt ≤ (2147483647 : Int)) : Met l yX16_isIn wsX16_isIn ({ frames := 0, cells := 0, slots := 0, locals := 0 }) (va_Pc [.int x0, .int 0, .int 7] (fun U => U.heap.size = sz ∧ va_P (dC, dI) vwCl [] U.heap ∧ va_K (dC, dI) vwCl [] U ∧ va_D (fun _ => True) [] ∧ ns_F g (va_A [] sz) U U.heap)) (va_Qi (fun (r : Int32) (_ : Unit) => r = 0) (fun _ t => va_P (dC, dI) vwCl [] t.heap ∧ va_K (dC, dI) vwCl [] t ∧ va_D (va_A [] sz) []) (va_A [] sz)) 0 0 (va_A [] sz) := by
  refine Met.ofW (cc := cX16_isIn) (maxL := 3) (ret := (some .boolean)) (by decide) rfl ?_
  intro p e s m args below meth c s₁ B hml hv
  obtain ⟨rfl, hsz, hP, hK, hD0, hF⟩ := hv
  have hx := B.exec
  have hb := B.bytes
  have hr := B.returns
  have hts := atoms_spec (ws := wsX16_isIn) B.pre
  have hown : s.vm.findClass RX16 = some m.cls := findClass_of_methodNamed B.named
  have hlocks := B.notSynchronized
  subst hsz
  have hD := hD0.self (sz := s.heap.size)
  generalize hAe : va_A [] s.heap.size = A at hD hF ⊢
  have hA : ∀ q : Nat, s.heap.size ≤ q → A q := fun q h => by rw [← hAe]; exact Or.inr h
  have hS : va_S A s.heap s.heap [] := va_S.rf
  have hP : va_P (dC, dI) vwCl [] s.heap := hP
  have hl := lv_entry ([.int x0, .int 0, .int 7]) (n := 3) (Nat.le_of_ble_eq_true rfl)
  rw [lg_entry_eq]
  generalize (lg_sl ([.int x0, .int 0, .int 7]) ++ List.replicate (3 - (lg_sl ([.int x0, .int 0, .int 7])).length) Slot.unset).toArray = ls at hl ⊢
  have hl : lv_has ls 3 [(0, .int x0), (1, .int 0), (2, .int 7)] := hl
  refine lv_iload_n hx hb dX16_isIn_0 rfl (lv_at hl 0 rfl) ?_
  refine lv_iload_n hx hb dX16_isIn_1 rfl (lv_at hl 1 rfl) ?_
  refine lv_icmp_lt (tgt := 14) hx hb dX16_isIn_2 (by decide) (fun c1 => absurd c1 (fun z => absurd (Int32.lt_iff_toInt_lt.mp z : x0.toInt < (0 : Int)) (by omega))) (fun c1 => ?_)
  refine lv_iload_n hx hb dX16_isIn_5 rfl (lv_at hl 0 rfl) ?_
  refine lv_iload_n hx hb dX16_isIn_6 rfl (lv_at hl 2 rfl) ?_
  refine lv_icmp_gt (tgt := 14) hx hb dX16_isIn_7 (by decide) (fun c2 => ?_) (fun c2 => absurd (Int32.lt_iff_toInt_lt.mpr (show (7 : Int) < x0.toInt by omega)) c2)
  refine lv_iconst (v := 0) hx hb dX16_isIn_14 (by decide) ?_
  have hP9 := hP.sub (ws' := []) [] rfl
  have hD9 := hD.sub (ws' := []) [] (by decide) rfl
  have hK9 := hK.sub (tys' := []) [] rfl
  refine W.widen (k := 0) (n := 0) (Nat.le_of_ble_eq_true rfl) (Nat.le_of_ble_eq_true rfl) ?_
  exact W.zret (v := 0) hx hb hr (by decide) (fun t ht hW => ⟨⟨_, (), rfl, rfl, by rw [ht]; exact hP9, va_K.moved hW.alike hK9, hD9⟩, hS.F ht⟩) hS.2.2 dX16_isIn_15
set_option maxHeartbeats 4000000 in
set_option maxRecDepth 100000 in
theorem kX16_house_10 (l : Launch) (dC : Nat → ClassId) (dI : Nat → Nat → Nat) (g : Nat → Nat) (sz : Nat) (h0 : Nat) (x0 : Int32) (v0 : Value) (v1 : Value) (v2 : Value) (v3 : Value) (v4 : Value) (v5 : Value) (v6 : Value) (v7 : Value) (v8 : Value) (ex0 : (8 : Int) ≤ x0.toInt ∧ x0.toInt ≤ (2147483647 : Int)) : Met l yX16_house wsX16_house ({ frames := 2, cells := 0, slots := 0, locals := 44 }) (va_Pc [.ref h0, .int x0] (fun U => U.heap.size = sz ∧ va_P (dC, dI) vwCl [(h0, .inr (23, [v0, v1, v2, v3, v4, v5, v6, v7, v8]))] U.heap ∧ va_K (dC, dI) vwCl [] U ∧ va_D (fun _ => True) [(h0, .inr (23, [v0, v1, v2, v3, v4, v5, v6, v7, v8]))] ∧ ns_F g (va_A [(h0, .inr (23, [v0, v1, v2, v3, v4, v5, v6, v7, v8]))] sz) U U.heap)) (va_Qi (fun (r : Int32) (_ : Unit) => r = 0) (fun _ t => va_P (dC, dI) vwCl [(h0, .inr (23, [.int 1, v1, v2, v3, v4, v5, v6, v7, v8]))] t.heap ∧ va_K (dC, dI) vwCl [] t ∧ va_D (va_A [(h0, .inr (23, [v0, v1, v2, v3, v4, v5, v6, v7, v8]))] sz) [(h0, .inr (23, [.int 1, v1, v2, v3, v4, v5, v6, v7, v8]))]) (va_A [(h0, .inr (23, [v0, v1, v2, v3, v4, v5, v6, v7, v8]))] sz)) 0 0 (va_A [(h0, .inr (23, [v0, v1, v2, v3, v4, v5, v6, v7, v8]))] sz) := by
  refine Met.ofW (cc := cX16_house) (maxL := 2) (ret := (some .int)) (by decide) rfl ?_
  intro p e s m args below meth c s₁ B hml hv
  obtain ⟨rfl, hsz, hP, hK, hD0, hF⟩ := hv
  have hx := B.exec
  have hb := B.bytes
  have hr := B.returns
  have hts := atoms_spec (ws := wsX16_house) B.pre
  have hown : s.vm.findClass RX16 = some m.cls := findClass_of_methodNamed B.named
  have hlocks := B.notSynchronized
  subst hsz
  have hD := hD0.self (sz := s.heap.size)
  generalize hAe : va_A [(h0, .inr (23, [v0, v1, v2, v3, v4, v5, v6, v7, v8]))] s.heap.size = A at hD hF ⊢
  have hA : ∀ q : Nat, s.heap.size ≤ q → A q := fun q h => by rw [← hAe]; exact Or.inr h
  have hS : va_S A s.heap s.heap [] := va_S.rf
  have hP : va_P (dC, dI) vwCl [(h0, .inr (23, [v0, v1, v2, v3, v4, v5, v6, v7, v8]))] s.heap := hP
  have hl := lv_entry ([.ref h0, .int x0]) (n := 2) (Nat.le_of_ble_eq_true rfl)
  rw [lg_entry_eq]
  generalize (lg_sl ([.ref h0, .int x0]) ++ List.replicate (2 - (lg_sl ([.ref h0, .int x0])).length) Slot.unset).toArray = ls at hl ⊢
  have hl : lv_has ls 2 [(0, .ref h0), (1, .int x0)] := hl
  refine lv_aload_n hx hb dX16_house_0 rfl (lv_at hl 0 rfl) ?_
  refine lv_iload_n hx hb dX16_house_1 rfl (lv_at hl 1 rfl) ?_
  refine lv_iconst (v := 0) hx hb dX16_house_2 (by decide) ?_
  refine lv_bipush (v := 7) hx hb dX16_house_3 (by decide) ?_
  have hPc := hP.sub (ws' := []) [] rfl
  have hDc := hD.sub (ws' := []) [] (by decide) rfl
  have hKc := hK.sub (tys' := []) [] rfl
  have hFc := va_free (wc := []) hD hS hA [] rfl
  refine va_calli (va_runS (As := [.int x0, .int 0, .int 7]) (rest := [.ref h0]) ⟨hx, hb, hml, hown, hts⟩ (kX16_isIn_24 l dC dI g s.heap.size x0 ⟨by omega, by omega⟩) (va_cwS 3 hts gX16_house_X16_isIn rfl rfl rfl (by decide +kernel) ⟨Nat.le_of_ble_eq_true rfl, Nat.le_of_ble_eq_true rfl⟩) ⟨fun a U gg mk q => by obtain ⟨q0, q1, qP, qK, qD, qF⟩ := q; exact ⟨q0, q1, qP, va_K.moved (u := U) (U := U.calling gg mk a) (Vm.Alike.refl U.vm) qK, qD, ns_same qF⟩, fun U hU hW => ⟨rfl, by rw [hU], by rw [hU]; exact hPc, va_K.moved hW.alike hKc, hDc.weaken (fun _ _ _ _ => trivial), ns_call hF hS hFc hU hW⟩⟩ rfl rfl hl.1 rfl (lv_room (Nat.le_of_ble_eq_true rfl)) dX16_house_5 ⟨Nat.le_of_ble_eq_true rfl, Nat.le_of_ble_eq_true rfl⟩) hS (fun q _ h => hFc q h) hFc (fun r9 u t H1 locs ht hvm hw hB hz1 hk1 hS => ?_)
  obtain rfl := hw
  obtain ⟨hP1, hK1, hD1⟩ := hB
  rw [ht] at hP1
  have hK1 := va_K.moved hvm.symm hK1
  obtain ⟨hP, hD⟩ := va_join (wr := [(h0, .inr (23, [v0, v1, v2, v3, v4, v5, v6, v7, v8]))]) (w1 := []) hP hD [] [0] rfl rfl (by decide) (by decide) hk1 hFc hP1 hD1
  have hK := (hK.sub (tys' := []) [] rfl).app hK1
  generalize H1 = H at hP hS ⊢
  have hP : va_P (dC, dI) vwCl [(h0, .inr (23, [v0, v1, v2, v3, v4, v5, v6, v7, v8]))] H := hP
  have hD : va_D A [(h0, .inr (23, [v0, v1, v2, v3, v4, v5, v6, v7, v8]))] := hD
  have hK : va_K (dC, dI) vwCl [] s := hK
  refine W.widen (k := 0) (n := 0) (Nat.le_of_ble_eq_true rfl) (Nat.le_of_ble_eq_true rfl) ?_
  refine lv_if_ne (tgt := 15) hx hb dX16_house_8 (by decide) (fun c1 => absurd (by decide) c1) (fun c1 => ?_)
  refine lv_iconst (v := 1) hx hb dX16_house_11 (by decide) ?_
  refine lv_goto (tgt := 16) hx hb dX16_house_12 (by decide) ?_
  refine lv_iconst (v := 1) hx hb dX16_house_16 (by decide) ?_
  have hPc := hP.sub (ws' := [(h0, .inr (23, [v0, v1, v2, v3, v4, v5, v6, v7, v8]))]) [0] rfl
  have hDc := hD.sub (ws' := [(h0, .inr (23, [v0, v1, v2, v3, v4, v5, v6, v7, v8]))]) [0] (by decide) rfl
  have hKc := hK.sub (tys' := []) [] rfl
  have hFc := va_free (wc := [(h0, .inr (23, [v0, v1, v2, v3, v4, v5, v6, v7, v8]))]) hD hS hA [0] rfl
  refine va_calli (va_runV (As := [.int 1, .int 1]) (rest := []) ⟨hx, hb, hml, hown, hts⟩ (kX16_start l dC dI g H.size h0 v0 v1 v2 v3 v4 v5 v6 v7 v8 ) (cwV 2 hts gX16_house_X16_start rfl rfl rfl (by decide +kernel) ⟨Nat.le_of_ble_eq_true rfl, Nat.le_of_ble_eq_true rfl⟩) ⟨fun a U gg mk q => by obtain ⟨q0, q1, qP, qK, qD, qF⟩ := q; exact ⟨q0, q1, qP, va_K.moved (u := U) (U := U.calling gg mk a) (Vm.Alike.refl U.vm) qK, qD, ns_same qF⟩, va_recv hK hP (ci := 23) (q0 := 0) rfl rfl, fun U hU hW => ⟨rfl, by rw [hU], by rw [hU]; exact hPc, va_K.moved hW.alike hKc, hDc.weaken (fun _ _ _ _ => trivial), ns_call hF hS hFc hU hW⟩⟩ rfl rfl hl.1 rfl (lv_room (Nat.le_of_ble_eq_true rfl)) dX16_house_17 ⟨Nat.le_of_ble_eq_true rfl, Nat.le_of_ble_eq_true rfl⟩) hS (fun q _ h => hFc q h) hFc (fun r9 u t H1 locs ht hvm hw hB hz1 hk1 hS => ?_)
  obtain rfl := hw
  obtain ⟨hP1, hK1, hD1⟩ := hB
  rw [ht] at hP1
  have hK1 := va_K.moved hvm.symm hK1
  obtain ⟨hP, hD⟩ := va_join (wr := []) (w1 := [(h0, .inr (23, [.int 1, v1, v2, v3, v4, v5, v6, v7, v8]))]) hP hD [0] [] rfl rfl (by decide) (by decide) hk1 hFc hP1 hD1
  have hK := (hK.sub (tys' := []) [] rfl).app hK1
  generalize H1 = H at hP hS ⊢
  have hP : va_P (dC, dI) vwCl [(h0, .inr (23, [.int 1, v1, v2, v3, v4, v5, v6, v7, v8]))] H := hP
  have hD : va_D A [(h0, .inr (23, [.int 1, v1, v2, v3, v4, v5, v6, v7, v8]))] := hD
  have hK : va_K (dC, dI) vwCl [] s := hK
  refine W.widen (k := 0) (n := 0) (Nat.le_of_ble_eq_true rfl) (Nat.le_of_ble_eq_true rfl) ?_
  refine lv_if_eq (tgt := 27) hx hb dX16_house_20 (by decide) (fun c2 => absurd c2 (by decide)) (fun c2 => ?_)
  refine lv_iconst (v := 0) hx hb dX16_house_23 (by decide) ?_
  refine lv_goto (tgt := 32) hx hb dX16_house_24 (by decide) ?_
  have hP9 := hP.sub (ws' := [(h0, .inr (23, [.int 1, v1, v2, v3, v4, v5, v6, v7, v8]))]) [0] rfl
  have hD9 := hD.sub (ws' := [(h0, .inr (23, [.int 1, v1, v2, v3, v4, v5, v6, v7, v8]))]) [0] (by decide) rfl
  have hK9 := hK.sub (tys' := []) [] rfl
  refine W.widen (k := 0) (n := 0) (Nat.le_of_ble_eq_true rfl) (Nat.le_of_ble_eq_true rfl) ?_
  exact W.iret (v := 0) hx hb hr (fun t ht hW => ⟨⟨_, (), rfl, rfl, by rw [ht]; exact hP9, va_K.moved hW.alike hK9, hD9⟩, hS.F ht⟩) hS.2.2 dX16_house_32
set_option maxHeartbeats 4000000 in
set_option maxRecDepth 100000 in
theorem kX9_fits (l : Launch) (dC : Nat → ClassId) (dI : Nat → Nat → Nat) (g : Nat → Nat) (sz : Nat) (h0 : Nat) (x0 : Int32) (x1 : Int32) (h1 : Nat) (h2 : Nat) (v0 : Value) (v1 : Value) (v2 : Value) (v3 : Value) (v4 : Value) (v5 : Value) (v6 : Value) (v7 : Value) (v8 : Value) (v9 : Value) (v10 : Value) (v11 : Value) (v12 : Value) (v13 : Value) (v14 : Value) (v15 : Value) (v16 : Value) (v17 : Value) (v18 : Value) (v19 : Value) (v20 : Value) (v21 : Value) (v22 : Value) (v23 : Value) (hlt : l.stackTraces = false) : vx_Met l yX9_fits wsX9_fits ({ frames := 7, cells := 1, slots := 6, locals := 103 }) (va_Pc [.ref h0, .int x0, .int x1] (fun U => U.heap.size = sz ∧ va_P (dC, dI) vwCl [(h0, .inr (16, [.ref h1, v0, v1, v2, v3, v4, v5, v6, v7, v8, v9, v10, v11, v12, v13, v14])), (h1, .inr (10, [.ref h2, v15, v16, v17, v18, v19, v20, v21, v22])), (h2, .inr (11, [v23, .int 0]))] U.heap ∧ va_K (dC, dI) vwCl [] U ∧ va_D (fun _ => True) [(h0, .inr (16, [.ref h1, v0, v1, v2, v3, v4, v5, v6, v7, v8, v9, v10, v11, v12, v13, v14])), (h1, .inr (10, [.ref h2, v15, v16, v17, v18, v19, v20, v21, v22])), (h2, .inr (11, [v23, .int 0]))] ∧ ns_F g (va_A [(h0, .inr (16, [.ref h1, v0, v1, v2, v3, v4, v5, v6, v7, v8, v9, v10, v11, v12, v13, v14])), (h1, .inr (10, [.ref h2, v15, v16, v17, v18, v19, v20, v21, v22])), (h2, .inr (11, [v23, .int 0]))] sz) U U.heap)) (va_Qv (fun _ : Unit => False) (fun _ _ => True) (va_A [(h0, .inr (16, [.ref h1, v0, v1, v2, v3, v4, v5, v6, v7, v8, v9, v10, v11, v12, v13, v14])), (h1, .inr (10, [.ref h2, v15, v16, v17, v18, v19, v20, v21, v22])), (h2, .inr (11, [v23, .int 0]))] sz)) (vx_X (fun _ : Unit => True) (fun E _ _ => E = "java/lang/IndexOutOfBoundsException") (va_A [(h0, .inr (16, [.ref h1, v0, v1, v2, v3, v4, v5, v6, v7, v8, v9, v10, v11, v12, v13, v14])), (h1, .inr (10, [.ref h2, v15, v16, v17, v18, v19, v20, v21, v22])), (h2, .inr (11, [v23, .int 0]))] sz)) 1 6 (va_A [(h0, .inr (16, [.ref h1, v0, v1, v2, v3, v4, v5, v6, v7, v8, v9, v10, v11, v12, v13, v14])), (h1, .inr (10, [.ref h2, v15, v16, v17, v18, v19, v20, v21, v22])), (h2, .inr (11, [v23, .int 0]))] sz) := by
  refine vx_ofW (cc := cX9_fits) (maxL := 3) (ret := (some .boolean)) (by decide) rfl ?_
  intro p e s m args below meth c s₁ B hml hnox hv
  obtain ⟨rfl, hsz, hP, hK, hD0, hF⟩ := hv
  have hx := B.exec
  have hb := B.bytes
  have hr := B.returns
  have hts := atoms_spec (ws := wsX9_fits) B.pre
  have hown : s.vm.findClass RX9 = some m.cls := findClass_of_methodNamed B.named
  have hlocks := B.notSynchronized
  subst hsz
  have hD := hD0.self (sz := s.heap.size)
  generalize hAe : va_A [(h0, .inr (16, [.ref h1, v0, v1, v2, v3, v4, v5, v6, v7, v8, v9, v10, v11, v12, v13, v14])), (h1, .inr (10, [.ref h2, v15, v16, v17, v18, v19, v20, v21, v22])), (h2, .inr (11, [v23, .int 0]))] s.heap.size = A at hD hF ⊢
  have hA : ∀ q : Nat, s.heap.size ≤ q → A q := fun q h => by rw [← hAe]; exact Or.inr h
  have hS : va_S A s.heap s.heap [] := va_S.rf
  have hP : va_P (dC, dI) vwCl [(h0, .inr (16, [.ref h1, v0, v1, v2, v3, v4, v5, v6, v7, v8, v9, v10, v11, v12, v13, v14])), (h1, .inr (10, [.ref h2, v15, v16, v17, v18, v19, v20, v21, v22])), (h2, .inr (11, [v23, .int 0]))] s.heap := hP
  have hl := lv_entry ([.ref h0, .int x0, .int x1]) (n := 3) (Nat.le_of_ble_eq_true rfl)
  rw [lg_entry_eq]
  generalize (lg_sl ([.ref h0, .int x0, .int x1]) ++ List.replicate (3 - (lg_sl ([.ref h0, .int x0, .int x1])).length) Slot.unset).toArray = ls at hl ⊢
  have hl : lv_has ls 3 [(0, .ref h0), (1, .int x0), (2, .int x1)] := hl
  refine lv_aload_n hx hb dX9_fits_0 rfl (lv_at hl 0 rfl) ?_
  refine lv_iload_n hx hb dX9_fits_1 rfl (lv_at hl 1 rfl) ?_
  have hPc := hP.sub (ws' := [(h0, .inr (16, [.ref h1, v0, v1, v2, v3, v4, v5, v6, v7, v8, v9, v10, v11, v12, v13, v14])), (h1, .inr (10, [.ref h2, v15, v16, v17, v18, v19, v20, v21, v22])), (h2, .inr (11, [v23, .int 0]))]) [0, 1, 2] rfl
  have hDc := hD.sub (ws' := [(h0, .inr (16, [.ref h1, v0, v1, v2, v3, v4, v5, v6, v7, v8, v9, v10, v11, v12, v13, v14])), (h1, .inr (10, [.ref h2, v15, v16, v17, v18, v19, v20, v21, v22])), (h2, .inr (11, [v23, .int 0]))]) [0, 1, 2] (by decide) rfl
  have hKc := hK.sub (tys' := []) [] rfl
  have hFc := va_free (wc := [(h0, .inr (16, [.ref h1, v0, v1, v2, v3, v4, v5, v6, v7, v8, v9, v10, v11, v12, v13, v14])), (h1, .inr (10, [.ref h2, v15, v16, v17, v18, v19, v20, v21, v22])), (h2, .inr (11, [v23, .int 0]))]) hD hS hA [0, 1, 2] rfl
  refine vx_callv (vx_runV (As := [.int x0]) (rest := []) ⟨hx, hb, hml, hown, hts⟩ (kX9_needNode l dC dI g s.heap.size h0 x0 h1 h2 v0 v1 v2 v3 v4 v5 v6 v7 v8 v9 v10 v11 v12 v13 v14 v15 v16 v17 v18 v19 v20 v21 v22 v23  hlt) (cwV 1 hts gX9_fits_X9_needNode rfl rfl rfl (by decide +kernel) ⟨Nat.le_of_ble_eq_true rfl, Nat.le_of_ble_eq_true rfl⟩) ⟨fun a U gg mk q => by obtain ⟨q0, q1, qP, qK, qD, qF⟩ := q; exact ⟨q0, q1, qP, va_K.moved (u := U) (U := U.calling gg mk a) (Vm.Alike.refl U.vm) qK, qD, ns_same qF⟩, va_recv hK hP (ci := 16) (q0 := 0) rfl rfl, fun U hU hW => ⟨rfl, by rw [hU], by rw [hU]; exact hPc, va_K.moved hW.alike hKc, hDc.weaken (fun _ _ _ _ => trivial), ns_call hF hS hFc hU hW⟩⟩ rfl rfl hl.1 rfl (lv_room (Nat.le_of_ble_eq_true rfl)) dX9_fits_2 ⟨Nat.le_of_ble_eq_true rfl, Nat.le_of_ble_eq_true rfl⟩) hS (fun q _ h => hFc q h) hFc (fun q _ h => hFc q h) (fun E ce q9 u t H1 locs ht hvm hw hB hz1 hk1 hS hc1 hc2 hc3 => ?_) (fun _ _ _ _ _ _ hw _ _ _ _ => False.elim hw)
  obtain rfl : E = "java/lang/IndexOutOfBoundsException" := hB
  exact vx_out (fun x hx => (hnox x hx).elim) hlocks hc1 hc2 hc3 (fun t9 ht9 hal => ⟨(), trivial, rfl, hS.F ht9⟩) hS.2.2 (Nat.le_of_ble_eq_true rfl) (Nat.le_of_ble_eq_true rfl)
set_option maxHeartbeats 4000000 in
set_option maxRecDepth 100000 in
theorem kL_fits (l : Launch) (dC : Nat → ClassId) (dI : Nat → Nat → Nat) (g : Nat → Nat) (sz : Nat) (h0 : Nat) (x0 : Int32) (x1 : Int32) (h1 : Nat) (h2 : Nat) (h3 : Nat) (v0 : Value) (v1 : Value) (v2 : Value) (v3 : Value) (v4 : Value) (v5 : Value) (v6 : Value) (v7 : Value) (v8 : Value) (v9 : Value) (v10 : Value) (v11 : Value) (v12 : Value) (v13 : Value) (v14 : Value) (v15 : Value) (v16 : Value) (v17 : Value) (v18 : Value) (v19 : Value) (v20 : Value) (v21 : Value) (v22 : Value) (v23 : Value) (hlt : l.stackTraces = false) : Met l yL_fits wsL_fits ({ frames := 8, cells := 1, slots := 6, locals := 125 }) (va_Pc [.ref h0, .int x0, .int x1, .ref h1] (fun U => U.heap.size = sz ∧ va_P (dC, dI) vwCl [(h0, .inr (16, [.ref h2, v0, v1, v2, v3, v4, v5, v6, v7, v8, v9, v10, v11, v12, v13, v14])), (h2, .inr (10, [.ref h3, v15, v16, v17, v18, v19, v20, v21, v22])), (h3, .inr (11, [v23, .int 0]))] U.heap ∧ va_K (dC, dI) vwCl [] U ∧ va_D (fun _ => True) [(h0, .inr (16, [.ref h2, v0, v1, v2, v3, v4, v5, v6, v7, v8, v9, v10, v11, v12, v13, v14])), (h2, .inr (10, [.ref h3, v15, v16, v17, v18, v19, v20, v21, v22])), (h3, .inr (11, [v23, .int 0]))] ∧ ns_F g (va_A [(h0, .inr (16, [.ref h2, v0, v1, v2, v3, v4, v5, v6, v7, v8, v9, v10, v11, v12, v13, v14])), (h2, .inr (10, [.ref h3, v15, v16, v17, v18, v19, v20, v21, v22])), (h3, .inr (11, [v23, .int 0]))] sz) U U.heap)) (va_Qi (fun (r : Int32) (_ : Unit) => r = 1) (fun _ t => va_P (dC, dI) vwCl [] t.heap ∧ va_K (dC, dI) vwCl [] t ∧ va_D (va_A [(h0, .inr (16, [.ref h2, v0, v1, v2, v3, v4, v5, v6, v7, v8, v9, v10, v11, v12, v13, v14])), (h2, .inr (10, [.ref h3, v15, v16, v17, v18, v19, v20, v21, v22])), (h3, .inr (11, [v23, .int 0]))] sz) []) (va_A [(h0, .inr (16, [.ref h2, v0, v1, v2, v3, v4, v5, v6, v7, v8, v9, v10, v11, v12, v13, v14])), (h2, .inr (10, [.ref h3, v15, v16, v17, v18, v19, v20, v21, v22])), (h3, .inr (11, [v23, .int 0]))] sz)) 1 6 (va_A [(h0, .inr (16, [.ref h2, v0, v1, v2, v3, v4, v5, v6, v7, v8, v9, v10, v11, v12, v13, v14])), (h2, .inr (10, [.ref h3, v15, v16, v17, v18, v19, v20, v21, v22])), (h3, .inr (11, [v23, .int 0]))] sz) := by
  refine va_MetW (cc := cL_fits) (maxL := 5) (ret := (some .int)) (hh := [(0, 18, 21, 30), (0, 18, 25, 19)]) (by decide) rfl ?_
  intro p e s m args below meth c s₁ B hml hv
  obtain ⟨rfl, hsz, hP, hK, hD0, hF⟩ := hv
  have hx := B.exec
  have hb := B.bytes
  have hr := B.returns
  have hts := atoms_spec (ws := wsL_fits) B.pre
  have hown : s.vm.findClass RL = some m.cls := findClass_of_methodNamed B.named
  have hlocks := B.notSynchronized
  have htab : c.exceptionTable.toList = [⟨0, 18, 21, 30⟩, ⟨0, 18, 25, 19⟩] := vx_table B (hts _ List.mem_cons_self)
  subst hsz
  have hD := hD0.self (sz := s.heap.size)
  generalize hAe : va_A [(h0, .inr (16, [.ref h2, v0, v1, v2, v3, v4, v5, v6, v7, v8, v9, v10, v11, v12, v13, v14])), (h2, .inr (10, [.ref h3, v15, v16, v17, v18, v19, v20, v21, v22])), (h3, .inr (11, [v23, .int 0]))] s.heap.size = A at hD hF ⊢
  have hA : ∀ q : Nat, s.heap.size ≤ q → A q := fun q h => by rw [← hAe]; exact Or.inr h
  have hS : va_S A s.heap s.heap [] := va_S.rf
  have hP : va_P (dC, dI) vwCl [(h0, .inr (16, [.ref h2, v0, v1, v2, v3, v4, v5, v6, v7, v8, v9, v10, v11, v12, v13, v14])), (h2, .inr (10, [.ref h3, v15, v16, v17, v18, v19, v20, v21, v22])), (h3, .inr (11, [v23, .int 0]))] s.heap := hP
  have hl := lv_entry ([.ref h0, .int x0, .int x1, .ref h1]) (n := 5) (Nat.le_of_ble_eq_true rfl)
  rw [lg_entry_eq]
  generalize (lg_sl ([.ref h0, .int x0, .int x1, .ref h1]) ++ List.replicate (5 - (lg_sl ([.ref h0, .int x0, .int x1, .ref h1])).length) Slot.unset).toArray = ls at hl ⊢
  have hl : lv_has ls 5 [(0, .ref h0), (1, .int x0), (2, .int x1), (3, .ref h1)] := hl
  refine lv_aload_n hx hb dL_fits_0 rfl (lv_at hl 3 rfl) ?_
  refine lv_aload_n hx hb dL_fits_1 rfl (lv_at hl 0 rfl) ?_
  refine lv_iload_n hx hb dL_fits_2 rfl (lv_at hl 1 rfl) ?_
  refine lv_iload_n hx hb dL_fits_3 rfl (lv_at hl 2 rfl) ?_
  have hPc := hP.sub (ws' := [(h0, .inr (16, [.ref h2, v0, v1, v2, v3, v4, v5, v6, v7, v8, v9, v10, v11, v12, v13, v14])), (h2, .inr (10, [.ref h3, v15, v16, v17, v18, v19, v20, v21, v22])), (h3, .inr (11, [v23, .int 0]))]) [0, 1, 2] rfl
  have hDc := hD.sub (ws' := [(h0, .inr (16, [.ref h2, v0, v1, v2, v3, v4, v5, v6, v7, v8, v9, v10, v11, v12, v13, v14])), (h2, .inr (10, [.ref h3, v15, v16, v17, v18, v19, v20, v21, v22])), (h3, .inr (11, [v23, .int 0]))]) [0, 1, 2] (by decide) rfl
  have hKc := hK.sub (tys' := []) [] rfl
  have hFc := va_free (wc := [(h0, .inr (16, [.ref h2, v0, v1, v2, v3, v4, v5, v6, v7, v8, v9, v10, v11, v12, v13, v14])), (h2, .inr (10, [.ref h3, v15, v16, v17, v18, v19, v20, v21, v22])), (h3, .inr (11, [v23, .int 0]))]) hD hS hA [0, 1, 2] rfl
  refine vx_callv (vx_runV (As := [.int x0, .int x1]) (rest := [.ref h1]) ⟨hx, hb, hml, hown, hts⟩ (kX9_fits l dC dI g s.heap.size h0 x0 x1 h2 h3 v0 v1 v2 v3 v4 v5 v6 v7 v8 v9 v10 v11 v12 v13 v14 v15 v16 v17 v18 v19 v20 v21 v22 v23  hlt) (cwV 2 hts gL_fits_X9_fits rfl rfl rfl (by decide +kernel) ⟨Nat.le_of_ble_eq_true rfl, Nat.le_of_ble_eq_true rfl⟩) ⟨fun a U gg mk q => by obtain ⟨q0, q1, qP, qK, qD, qF⟩ := q; exact ⟨q0, q1, qP, va_K.moved (u := U) (U := U.calling gg mk a) (Vm.Alike.refl U.vm) qK, qD, ns_same qF⟩, va_recv hK hP (ci := 16) (q0 := 0) rfl rfl, fun U hU hW => ⟨rfl, by rw [hU], by rw [hU]; exact hPc, va_K.moved hW.alike hKc, hDc.weaken (fun _ _ _ _ => trivial), ns_call hF hS hFc hU hW⟩⟩ rfl rfl hl.1 rfl (lv_room (Nat.le_of_ble_eq_true rfl)) dL_fits_4 ⟨Nat.le_of_ble_eq_true rfl, Nat.le_of_ble_eq_true rfl⟩) hS (fun q _ h => hFc q h) hFc (fun q _ h => hFc q h) (fun E ce q9 u t H1 locs ht hvm hw hB hz1 hk1 hS hc1 hc2 hc3 => ?_) (fun _ _ _ _ _ _ hw _ _ _ _ => False.elim hw)
  obtain rfl : E = "java/lang/IndexOutOfBoundsException" := hB
  obtain ⟨hP, hD⟩ := va_join (wr := []) (w1 := []) hP hD [0, 1, 2] [] rfl rfl (by decide) (by decide) hk1 hFc (fun k q h => by simp at h) ⟨fun i j p q h => by simp at h, fun k q h => by simp at h⟩
  have hK := hK.sub (tys' := []) [] rfl
  generalize H1 = H at hP hS hc1 ⊢
  have hP : va_P (dC, dI) vwCl [] H := hP
  have hD : va_D A [] := hD
  have hK : va_K (dC, dI) vwCl [] s := hK
  refine vx_widen (k := 1) (n := 6) (Nat.le_of_ble_eq_true rfl) (Nat.le_of_ble_eq_true rfl) ?_
  refine vx_catch hown [] ⟨0, 18, 21, 30⟩ [⟨0, 18, 25, 19⟩] htab (fun z hz => by simp at hz) (by decide) (by decide) (hts (.classLink RL 30 "java/lang/IndexOutOfBoundsException") (by decide +kernel)) (va_Nw.use rfl (ns_f10 hF)) hc1 hc2 hc3 ?_
  refine W.eq (g2 := F0 m 21 ls [.ref q9]) rfl ?_
  refine lv_astore (lv' := [(4, .ref q9), (0, .ref h0), (1, .int x0), (2, .int x1), (3, .ref h1)]) hx hb dL_fits_21 hl (by decide) rfl (fun ls hl => ?_)
  refine lv_iconst (v := 1) hx hb dL_fits_23 (by decide) ?_
  have hP9 := hP.sub (ws' := []) [] rfl
  have hD9 := hD.sub (ws' := []) [] (by decide) rfl
  have hK9 := hK.sub (tys' := []) [] rfl
  refine W.widen (k := 1) (n := 6) (Nat.le_of_ble_eq_true rfl) (Nat.le_of_ble_eq_true rfl) ?_
  exact W.iret (v := 1) hx hb hr (fun t ht hW => ⟨⟨_, (), rfl, rfl, by rw [ht]; exact hP9, va_K.moved hW.alike hK9, hD9⟩, hS.F ht⟩) hS.2.2 dL_fits_24
set_option maxHeartbeats 4000000 in
set_option maxRecDepth 100000 in
theorem kX16_fits (l : Launch) (dC : Nat → ClassId) (dI : Nat → Nat → Nat) (g : Nat → Nat) (sz : Nat) (h0 : Nat) (x0 : Int32) (x1 : Int32) (h1 : Nat) (v0 : Value) (v1 : Value) (v2 : Value) (v3 : Value) (v4 : Value) (v5 : Value) (v6 : Value) (v7 : Value) (v8 : Value) (v9 : Value) : Met l yX16_fits wsX16_fits ({ frames := 2, cells := 0, slots := 0, locals := 44 }) (va_Pc [.ref h0, .int x0, .int x1] (fun U => U.heap.size = sz ∧ va_P (dC, dI) vwCl [(h0, .inr (23, [v0, .ref h1, v1, v2, v3, v4, v5, v6, v7])), (h1, .inr (6, [v8, v9, .int 0]))] U.heap ∧ va_K (dC, dI) vwCl [] U ∧ va_D (fun _ => True) [(h0, .inr (23, [v0, .ref h1, v1, v2, v3, v4, v5, v6, v7])), (h1, .inr (6, [v8, v9, .int 0]))] ∧ ns_F g (va_A [(h0, .inr (23, [v0, .ref h1, v1, v2, v3, v4, v5, v6, v7])), (h1, .inr (6, [v8, v9, .int 0]))] sz) U U.heap)) (va_Qi (fun (r : Int32) (_ : Unit) => r = 0) (fun _ t => va_P (dC, dI) vwCl [(h1, .inr (6, [v8, v9, .int 0])), (h0, .inr (23, [.int 1, .ref h1, v1, v2, v3, v4, v5, v6, v7]))] t.heap ∧ va_K (dC, dI) vwCl [] t ∧ va_D (va_A [(h0, .inr (23, [v0, .ref h1, v1, v2, v3, v4, v5, v6, v7])), (h1, .inr (6, [v8, v9, .int 0]))] sz) [(h1, .inr (6, [v8, v9, .int 0])), (h0, .inr (23, [.int 1, .ref h1, v1, v2, v3, v4, v5, v6, v7]))]) (va_A [(h0, .inr (23, [v0, .ref h1, v1, v2, v3, v4, v5, v6, v7])), (h1, .inr (6, [v8, v9, .int 0]))] sz)) 0 0 (va_A [(h0, .inr (23, [v0, .ref h1, v1, v2, v3, v4, v5, v6, v7])), (h1, .inr (6, [v8, v9, .int 0]))] sz) := by
  refine Met.ofW (cc := cX16_fits) (maxL := 3) (ret := (some .boolean)) (by decide) rfl ?_
  intro p e s m args below meth c s₁ B hml hv
  obtain ⟨rfl, hsz, hP, hK, hD0, hF⟩ := hv
  have hx := B.exec
  have hb := B.bytes
  have hr := B.returns
  have hts := atoms_spec (ws := wsX16_fits) B.pre
  have hown : s.vm.findClass RX16 = some m.cls := findClass_of_methodNamed B.named
  have hlocks := B.notSynchronized
  subst hsz
  have hD := hD0.self (sz := s.heap.size)
  generalize hAe : va_A [(h0, .inr (23, [v0, .ref h1, v1, v2, v3, v4, v5, v6, v7])), (h1, .inr (6, [v8, v9, .int 0]))] s.heap.size = A at hD hF ⊢
  have hA : ∀ q : Nat, s.heap.size ≤ q → A q := fun q h => by rw [← hAe]; exact Or.inr h
  have hS : va_S A s.heap s.heap [] := va_S.rf
  have hP : va_P (dC, dI) vwCl [(h0, .inr (23, [v0, .ref h1, v1, v2, v3, v4, v5, v6, v7])), (h1, .inr (6, [v8, v9, .int 0]))] s.heap := hP
  have hl := lv_entry ([.ref h0, .int x0, .int x1]) (n := 3) (Nat.le_of_ble_eq_true rfl)
  rw [lg_entry_eq]
  generalize (lg_sl ([.ref h0, .int x0, .int x1]) ++ List.replicate (3 - (lg_sl ([.ref h0, .int x0, .int x1])).length) Slot.unset).toArray = ls at hl ⊢
  have hl : lv_has ls 3 [(0, .ref h0), (1, .int x0), (2, .int x1)] := hl
  refine lv_aload_n hx hb dX16_fits_0 rfl (lv_at hl 0 rfl) ?_
  refine lv_aload_n hx hb dX16_fits_1 rfl (lv_at hl 0 rfl) ?_
  refine lv_iload_n hx hb dX16_fits_2 rfl (lv_at hl 1 rfl) ?_
  have hPc := hP.sub (ws' := [(h0, .inr (23, [v0, .ref h1, v1, v2, v3, v4, v5, v6, v7])), (h1, .inr (6, [v8, v9, .int 0]))]) [0, 1] rfl
  have hDc := hD.sub (ws' := [(h0, .inr (23, [v0, .ref h1, v1, v2, v3, v4, v5, v6, v7])), (h1, .inr (6, [v8, v9, .int 0]))]) [0, 1] (by decide) rfl
  have hKc := hK.sub (tys' := []) [] rfl
  have hFc := va_free (wc := [(h0, .inr (23, [v0, .ref h1, v1, v2, v3, v4, v5, v6, v7])), (h1, .inr (6, [v8, v9, .int 0]))]) hD hS hA [0, 1] rfl
  refine va_calli (va_runV (As := [.int x0]) (rest := [.ref h0]) ⟨hx, hb, hml, hown, hts⟩ (kX16_isNoNode l dC dI g s.heap.size h0 x0 h1 v0 v1 v2 v3 v4 v5 v6 v7 v8 v9 ) (cwV 1 hts gX16_fits_X16_isNoNode rfl rfl rfl (by decide +kernel) ⟨Nat.le_of_ble_eq_true rfl, Nat.le_of_ble_eq_true rfl⟩) ⟨fun a U gg mk q => by obtain ⟨q0, q1, qP, qK, qD, qF⟩ := q; exact ⟨q0, q1, qP, va_K.moved (u := U) (U := U.calling gg mk a) (Vm.Alike.refl U.vm) qK, qD, ns_same qF⟩, va_recv hK hP (ci := 23) (q0 := 0) rfl rfl, fun U hU hW => ⟨rfl, by rw [hU], by rw [hU]; exact hPc, va_K.moved hW.alike hKc, hDc.weaken (fun _ _ _ _ => trivial), ns_call hF hS hFc hU hW⟩⟩ rfl rfl hl.1 rfl (lv_room (Nat.le_of_ble_eq_true rfl)) dX16_fits_3 ⟨Nat.le_of_ble_eq_true rfl, Nat.le_of_ble_eq_true rfl⟩) hS (fun q _ h => hFc q h) hFc (fun r9 u t H1 locs ht hvm hw hB hz1 hk1 hS => ?_)
  obtain rfl := hw
  obtain ⟨hP1, hK1, hD1⟩ := hB
  rw [ht] at hP1
  have hK1 := va_K.moved hvm.symm hK1
  obtain ⟨hP, hD⟩ := va_join (wr := []) (w1 := [(h0, .inr (23, [v0, .ref h1, v1, v2, v3, v4, v5, v6, v7])), (h1, .inr (6, [v8, v9, .int 0]))]) hP hD [0, 1] [] rfl rfl (by decide) (by decide) hk1 hFc hP1 hD1
  have hK := (hK.sub (tys' := []) [] rfl).app hK1
  generalize H1 = H at hP hS ⊢
  have hP : va_P (dC, dI) vwCl [(h0, .inr (23, [v0, .ref h1, v1, v2, v3, v4, v5, v6, v7])), (h1, .inr (6, [v8, v9, .int 0]))] H := hP
  have hD : va_D A [(h0, .inr (23, [v0, .ref h1, v1, v2, v3, v4, v5, v6, v7])), (h1, .inr (6, [v8, v9, .int 0]))] := hD
  have hK : va_K (dC, dI) vwCl [] s := hK
  refine W.widen (k := 0) (n := 0) (Nat.le_of_ble_eq_true rfl) (Nat.le_of_ble_eq_true rfl) ?_
  refine lv_iconst (v := 1) hx hb dX16_fits_6 (by decide) ?_
  have hPc := hP.sub (ws' := [(h0, .inr (23, [v0, .ref h1, v1, v2, v3, v4, v5, v6, v7]))]) [0] rfl
  have hDc := hD.sub (ws' := [(h0, .inr (23, [v0, .ref h1, v1, v2, v3, v4, v5, v6, v7]))]) [0] (by decide) rfl
  have hKc := hK.sub (tys' := []) [] rfl
  have hFc := va_free (wc := [(h0, .inr (23, [v0, .ref h1, v1, v2, v3, v4, v5, v6, v7]))]) hD hS hA [0] rfl
  refine va_calli (va_runV (As := [.int 1, .int 1]) (rest := []) ⟨hx, hb, hml, hown, hts⟩ (kX16_start l dC dI g H.size h0 v0 (.ref h1) v1 v2 v3 v4 v5 v6 v7 ) (cwV 2 hts gX16_fits_X16_start rfl rfl rfl (by decide +kernel) ⟨Nat.le_of_ble_eq_true rfl, Nat.le_of_ble_eq_true rfl⟩) ⟨fun a U gg mk q => by obtain ⟨q0, q1, qP, qK, qD, qF⟩ := q; exact ⟨q0, q1, qP, va_K.moved (u := U) (U := U.calling gg mk a) (Vm.Alike.refl U.vm) qK, qD, ns_same qF⟩, va_recv hK hP (ci := 23) (q0 := 0) rfl rfl, fun U hU hW => ⟨rfl, by rw [hU], by rw [hU]; exact hPc, va_K.moved hW.alike hKc, hDc.weaken (fun _ _ _ _ => trivial), ns_call hF hS hFc hU hW⟩⟩ rfl rfl hl.1 rfl (lv_room (Nat.le_of_ble_eq_true rfl)) dX16_fits_7 ⟨Nat.le_of_ble_eq_true rfl, Nat.le_of_ble_eq_true rfl⟩) hS (fun q _ h => hFc q h) hFc (fun r9 u t H1 locs ht hvm hw hB hz1 hk1 hS => ?_)
  obtain rfl := hw
  obtain ⟨hP1, hK1, hD1⟩ := hB
  rw [ht] at hP1
  have hK1 := va_K.moved hvm.symm hK1
  obtain ⟨hP, hD⟩ := va_join (wr := [(h1, .inr (6, [v8, v9, .int 0]))]) (w1 := [(h0, .inr (23, [.int 1, .ref h1, v1, v2, v3, v4, v5, v6, v7]))]) hP hD [0] [1] rfl rfl (by decide) (by decide) hk1 hFc hP1 hD1
  have hK := (hK.sub (tys' := []) [] rfl).app hK1
  generalize H1 = H at hP hS ⊢
  have hP : va_P (dC, dI) vwCl [(h1, .inr (6, [v8, v9, .int 0])), (h0, .inr (23, [.int 1, .ref h1, v1, v2, v3, v4, v5, v6, v7]))] H := hP
  have hD : va_D A [(h1, .inr (6, [v8, v9, .int 0])), (h0, .inr (23, [.int 1, .ref h1, v1, v2, v3, v4, v5, v6, v7]))] := hD
  have hK : va_K (dC, dI) vwCl [] s := hK
  refine W.widen (k := 0) (n := 0) (Nat.le_of_ble_eq_true rfl) (Nat.le_of_ble_eq_true rfl) ?_
  refine lv_if_ne (tgt := 36) hx hb dX16_fits_10 (by decide) (fun c1 => ?_) (fun c1 => absurd c1 (by decide))
  refine lv_iconst (v := 0) hx hb dX16_fits_36 (by decide) ?_
  have hP9 := hP.sub (ws' := [(h1, .inr (6, [v8, v9, .int 0])), (h0, .inr (23, [.int 1, .ref h1, v1, v2, v3, v4, v5, v6, v7]))]) [0, 1] rfl
  have hD9 := hD.sub (ws' := [(h1, .inr (6, [v8, v9, .int 0])), (h0, .inr (23, [.int 1, .ref h1, v1, v2, v3, v4, v5, v6, v7]))]) [0, 1] (by decide) rfl
  have hK9 := hK.sub (tys' := []) [] rfl
  refine W.widen (k := 0) (n := 0) (Nat.le_of_ble_eq_true rfl) (Nat.le_of_ble_eq_true rfl) ?_
  exact W.zret (v := 0) hx hb hr (by decide) (fun t ht hW => ⟨⟨_, (), rfl, rfl, by rw [ht]; exact hP9, va_K.moved hW.alike hK9, hD9⟩, hS.F ht⟩) hS.2.2 dX16_fits_37
set_option maxHeartbeats 4000000 in
set_option maxRecDepth 100000 in
theorem kX9_would (l : Launch) (dC : Nat → ClassId) (dI : Nat → Nat → Nat) (g : Nat → Nat) (sz : Nat) (h0 : Nat) (x0 : Int32) (x1 : Int32) (x2 : Int32) (h1 : Nat) (h2 : Nat) (v0 : Value) (v1 : Value) (v2 : Value) (v3 : Value) (v4 : Value) (v5 : Value) (v6 : Value) (v7 : Value) (v8 : Value) (v9 : Value) (v10 : Value) (v11 : Value) (v12 : Value) (v13 : Value) (v14 : Value) (v15 : Value) (v16 : Value) (v17 : Value) (v18 : Value) (v19 : Value) (v20 : Value) (v21 : Value) (v22 : Value) (v23 : Value) (hlt : l.stackTraces = false) : vx_Met l yX9_would wsX9_would ({ frames := 7, cells := 1, slots := 6, locals := 103 }) (va_Pc [.ref h0, .int x0, .int x1, .int x2] (fun U => U.heap.size = sz ∧ va_P (dC, dI) vwCl [(h0, .inr (16, [.ref h1, v0, v1, v2, v3, v4, v5, v6, v7, v8, v9, v10, v11, v12, v13, v14])), (h1, .inr (10, [.ref h2, v15, v16, v17, v18, v19, v20, v21, v22])), (h2, .inr (11, [v23, .int 0]))] U.heap ∧ va_K (dC, dI) vwCl [] U ∧ va_D (fun _ => True) [(h0, .inr (16, [.ref h1, v0, v1, v2, v3, v4, v5, v6, v7, v8, v9, v10, v11, v12, v13, v14])), (h1, .inr (10, [.ref h2, v15, v16, v17, v18, v19, v20, v21, v22])), (h2, .inr (11, [v23, .int 0]))] ∧ ns_F g (va_A [(h0, .inr (16, [.ref h1, v0, v1, v2, v3, v4, v5, v6, v7, v8, v9, v10, v11, v12, v13, v14])), (h1, .inr (10, [.ref h2, v15, v16, v17, v18, v19, v20, v21, v22])), (h2, .inr (11, [v23, .int 0]))] sz) U U.heap)) (va_Qv (fun _ : Unit => False) (fun _ _ => True) (va_A [(h0, .inr (16, [.ref h1, v0, v1, v2, v3, v4, v5, v6, v7, v8, v9, v10, v11, v12, v13, v14])), (h1, .inr (10, [.ref h2, v15, v16, v17, v18, v19, v20, v21, v22])), (h2, .inr (11, [v23, .int 0]))] sz)) (vx_X (fun _ : Unit => True) (fun E _ _ => E = "java/lang/IndexOutOfBoundsException") (va_A [(h0, .inr (16, [.ref h1, v0, v1, v2, v3, v4, v5, v6, v7, v8, v9, v10, v11, v12, v13, v14])), (h1, .inr (10, [.ref h2, v15, v16, v17, v18, v19, v20, v21, v22])), (h2, .inr (11, [v23, .int 0]))] sz)) 1 6 (va_A [(h0, .inr (16, [.ref h1, v0, v1, v2, v3, v4, v5, v6, v7, v8, v9, v10, v11, v12, v13, v14])), (h1, .inr (10, [.ref h2, v15, v16, v17, v18, v19, v20, v21, v22])), (h2, .inr (11, [v23, .int 0]))] sz) := by
  refine vx_ofW (cc := cX9_would) (maxL := 4) (ret := (some .int)) (by decide) rfl ?_
  intro p e s m args below meth c s₁ B hml hnox hv
  obtain ⟨rfl, hsz, hP, hK, hD0, hF⟩ := hv
  have hx := B.exec
  have hb := B.bytes
  have hr := B.returns
  have hts := atoms_spec (ws := wsX9_would) B.pre
  have hown : s.vm.findClass RX9 = some m.cls := findClass_of_methodNamed B.named
  have hlocks := B.notSynchronized
  subst hsz
  have hD := hD0.self (sz := s.heap.size)
  generalize hAe : va_A [(h0, .inr (16, [.ref h1, v0, v1, v2, v3, v4, v5, v6, v7, v8, v9, v10, v11, v12, v13, v14])), (h1, .inr (10, [.ref h2, v15, v16, v17, v18, v19, v20, v21, v22])), (h2, .inr (11, [v23, .int 0]))] s.heap.size = A at hD hF ⊢
  have hA : ∀ q : Nat, s.heap.size ≤ q → A q := fun q h => by rw [← hAe]; exact Or.inr h
  have hS : va_S A s.heap s.heap [] := va_S.rf
  have hP : va_P (dC, dI) vwCl [(h0, .inr (16, [.ref h1, v0, v1, v2, v3, v4, v5, v6, v7, v8, v9, v10, v11, v12, v13, v14])), (h1, .inr (10, [.ref h2, v15, v16, v17, v18, v19, v20, v21, v22])), (h2, .inr (11, [v23, .int 0]))] s.heap := hP
  have hl := lv_entry ([.ref h0, .int x0, .int x1, .int x2]) (n := 4) (Nat.le_of_ble_eq_true rfl)
  rw [lg_entry_eq]
  generalize (lg_sl ([.ref h0, .int x0, .int x1, .int x2]) ++ List.replicate (4 - (lg_sl ([.ref h0, .int x0, .int x1, .int x2])).length) Slot.unset).toArray = ls at hl ⊢
  have hl : lv_has ls 4 [(0, .ref h0), (1, .int x0), (2, .int x1), (3, .int x2)] := hl
  refine lv_aload_n hx hb dX9_would_0 rfl (lv_at hl 0 rfl) ?_
  refine lv_iload_n hx hb dX9_would_1 rfl (lv_at hl 1 rfl) ?_
  have hPc := hP.sub (ws' := [(h0, .inr (16, [.ref h1, v0, v1, v2, v3, v4, v5, v6, v7, v8, v9, v10, v11, v12, v13, v14])), (h1, .inr (10, [.ref h2, v15, v16, v17, v18, v19, v20, v21, v22])), (h2, .inr (11, [v23, .int 0]))]) [0, 1, 2] rfl
  have hDc := hD.sub (ws' := [(h0, .inr (16, [.ref h1, v0, v1, v2, v3, v4, v5, v6, v7, v8, v9, v10, v11, v12, v13, v14])), (h1, .inr (10, [.ref h2, v15, v16, v17, v18, v19, v20, v21, v22])), (h2, .inr (11, [v23, .int 0]))]) [0, 1, 2] (by decide) rfl
  have hKc := hK.sub (tys' := []) [] rfl
  have hFc := va_free (wc := [(h0, .inr (16, [.ref h1, v0, v1, v2, v3, v4, v5, v6, v7, v8, v9, v10, v11, v12, v13, v14])), (h1, .inr (10, [.ref h2, v15, v16, v17, v18, v19, v20, v21, v22])), (h2, .inr (11, [v23, .int 0]))]) hD hS hA [0, 1, 2] rfl
  refine vx_callv (vx_runV (As := [.int x0]) (rest := []) ⟨hx, hb, hml, hown, hts⟩ (kX9_needNode l dC dI g s.heap.size h0 x0 h1 h2 v0 v1 v2 v3 v4 v5 v6 v7 v8 v9 v10 v11 v12 v13 v14 v15 v16 v17 v18 v19 v20 v21 v22 v23  hlt) (cwV 1 hts gX9_would_X9_needNode rfl rfl rfl (by decide +kernel) ⟨Nat.le_of_ble_eq_true rfl, Nat.le_of_ble_eq_true rfl⟩) ⟨fun a U gg mk q => by obtain ⟨q0, q1, qP, qK, qD, qF⟩ := q; exact ⟨q0, q1, qP, va_K.moved (u := U) (U := U.calling gg mk a) (Vm.Alike.refl U.vm) qK, qD, ns_same qF⟩, va_recv hK hP (ci := 16) (q0 := 0) rfl rfl, fun U hU hW => ⟨rfl, by rw [hU], by rw [hU]; exact hPc, va_K.moved hW.alike hKc, hDc.weaken (fun _ _ _ _ => trivial), ns_call hF hS hFc hU hW⟩⟩ rfl rfl hl.1 rfl (lv_room (Nat.le_of_ble_eq_true rfl)) dX9_would_2 ⟨Nat.le_of_ble_eq_true rfl, Nat.le_of_ble_eq_true rfl⟩) hS (fun q _ h => hFc q h) hFc (fun q _ h => hFc q h) (fun E ce q9 u t H1 locs ht hvm hw hB hz1 hk1 hS hc1 hc2 hc3 => ?_) (fun _ _ _ _ _ _ hw _ _ _ _ => False.elim hw)
  obtain rfl : E = "java/lang/IndexOutOfBoundsException" := hB
  exact vx_out (fun x hx => (hnox x hx).elim) hlocks hc1 hc2 hc3 (fun t9 ht9 hal => ⟨(), trivial, rfl, hS.F ht9⟩) hS.2.2 (Nat.le_of_ble_eq_true rfl) (Nat.le_of_ble_eq_true rfl)
set_option maxHeartbeats 4000000 in
set_option maxRecDepth 100000 in
theorem kL_would (l : Launch) (dC : Nat → ClassId) (dI : Nat → Nat → Nat) (g : Nat → Nat) (sz : Nat) (h0 : Nat) (x0 : Int32) (x1 : Int32) (x2 : Int32) (h1 : Nat) (h2 : Nat) (h3 : Nat) (v0 : Value) (v1 : Value) (v2 : Value) (v3 : Value) (v4 : Value) (v5 : Value) (v6 : Value) (v7 : Value) (v8 : Value) (v9 : Value) (v10 : Value) (v11 : Value) (v12 : Value) (v13 : Value) (v14 : Value) (v15 : Value) (v16 : Value) (v17 : Value) (v18 : Value) (v19 : Value) (v20 : Value) (v21 : Value) (v22 : Value) (v23 : Value) (hlt : l.stackTraces = false) : Met l yL_would wsL_would ({ frames := 8, cells := 1, slots := 6, locals := 126 }) (va_Pc [.ref h0, .int x0, .int x1, .int x2, .ref h1] (fun U => U.heap.size = sz ∧ va_P (dC, dI) vwCl [(h0, .inr (16, [.ref h2, v0, v1, v2, v3, v4, v5, v6, v7, v8, v9, v10, v11, v12, v13, v14])), (h2, .inr (10, [.ref h3, v15, v16, v17, v18, v19, v20, v21, v22])), (h3, .inr (11, [v23, .int 0]))] U.heap ∧ va_K (dC, dI) vwCl [] U ∧ va_D (fun _ => True) [(h0, .inr (16, [.ref h2, v0, v1, v2, v3, v4, v5, v6, v7, v8, v9, v10, v11, v12, v13, v14])), (h2, .inr (10, [.ref h3, v15, v16, v17, v18, v19, v20, v21, v22])), (h3, .inr (11, [v23, .int 0]))] ∧ ns_F g (va_A [(h0, .inr (16, [.ref h2, v0, v1, v2, v3, v4, v5, v6, v7, v8, v9, v10, v11, v12, v13, v14])), (h2, .inr (10, [.ref h3, v15, v16, v17, v18, v19, v20, v21, v22])), (h3, .inr (11, [v23, .int 0]))] sz) U U.heap)) (va_Qi (fun (r : Int32) (_ : Unit) => r = 1) (fun _ t => va_P (dC, dI) vwCl [] t.heap ∧ va_K (dC, dI) vwCl [] t ∧ va_D (va_A [(h0, .inr (16, [.ref h2, v0, v1, v2, v3, v4, v5, v6, v7, v8, v9, v10, v11, v12, v13, v14])), (h2, .inr (10, [.ref h3, v15, v16, v17, v18, v19, v20, v21, v22])), (h3, .inr (11, [v23, .int 0]))] sz) []) (va_A [(h0, .inr (16, [.ref h2, v0, v1, v2, v3, v4, v5, v6, v7, v8, v9, v10, v11, v12, v13, v14])), (h2, .inr (10, [.ref h3, v15, v16, v17, v18, v19, v20, v21, v22])), (h3, .inr (11, [v23, .int 0]))] sz)) 1 6 (va_A [(h0, .inr (16, [.ref h2, v0, v1, v2, v3, v4, v5, v6, v7, v8, v9, v10, v11, v12, v13, v14])), (h2, .inr (10, [.ref h3, v15, v16, v17, v18, v19, v20, v21, v22])), (h3, .inr (11, [v23, .int 0]))] sz) := by
  refine va_MetW (cc := cL_would) (maxL := 6) (ret := (some .int)) (hh := [(0, 13, 16, 30), (0, 13, 20, 19)]) (by decide) rfl ?_
  intro p e s m args below meth c s₁ B hml hv
  obtain ⟨rfl, hsz, hP, hK, hD0, hF⟩ := hv
  have hx := B.exec
  have hb := B.bytes
  have hr := B.returns
  have hts := atoms_spec (ws := wsL_would) B.pre
  have hown : s.vm.findClass RL = some m.cls := findClass_of_methodNamed B.named
  have hlocks := B.notSynchronized
  have htab : c.exceptionTable.toList = [⟨0, 13, 16, 30⟩, ⟨0, 13, 20, 19⟩] := vx_table B (hts _ List.mem_cons_self)
  subst hsz
  have hD := hD0.self (sz := s.heap.size)
  generalize hAe : va_A [(h0, .inr (16, [.ref h2, v0, v1, v2, v3, v4, v5, v6, v7, v8, v9, v10, v11, v12, v13, v14])), (h2, .inr (10, [.ref h3, v15, v16, v17, v18, v19, v20, v21, v22])), (h3, .inr (11, [v23, .int 0]))] s.heap.size = A at hD hF ⊢
  have hA : ∀ q : Nat, s.heap.size ≤ q → A q := fun q h => by rw [← hAe]; exact Or.inr h
  have hS : va_S A s.heap s.heap [] := va_S.rf
  have hP : va_P (dC, dI) vwCl [(h0, .inr (16, [.ref h2, v0, v1, v2, v3, v4, v5, v6, v7, v8, v9, v10, v11, v12, v13, v14])), (h2, .inr (10, [.ref h3, v15, v16, v17, v18, v19, v20, v21, v22])), (h3, .inr (11, [v23, .int 0]))] s.heap := hP
  have hl := lv_entry ([.ref h0, .int x0, .int x1, .int x2, .ref h1]) (n := 6) (Nat.le_of_ble_eq_true rfl)
  rw [lg_entry_eq]
  generalize (lg_sl ([.ref h0, .int x0, .int x1, .int x2, .ref h1]) ++ List.replicate (6 - (lg_sl ([.ref h0, .int x0, .int x1, .int x2, .ref h1])).length) Slot.unset).toArray = ls at hl ⊢
  have hl : lv_has ls 6 [(0, .ref h0), (1, .int x0), (2, .int x1), (3, .int x2), (4, .ref h1)] := hl
  refine lv_aload hx hb dL_would_0 (lv_at hl 4 rfl) ?_
  refine lv_aload_n hx hb dL_would_2 rfl (lv_at hl 0 rfl) ?_
  refine lv_iload_n hx hb dL_would_3 rfl (lv_at hl 1 rfl) ?_
  refine lv_iload_n hx hb dL_would_4 rfl (lv_at hl 2 rfl) ?_
  refine lv_iload_n hx hb dL_would_5 rfl (lv_at hl 3 rfl) ?_
  have hPc := hP.sub (ws' := [(h0, .inr (16, [.ref h2, v0, v1, v2, v3, v4, v5, v6, v7, v8, v9, v10, v11, v12, v13, v14])), (h2, .inr (10, [.ref h3, v15, v16, v17, v18, v19, v20, v21, v22])), (h3, .inr (11, [v23, .int 0]))]) [0, 1, 2] rfl
  have hDc := hD.sub (ws' := [(h0, .inr (16, [.ref h2, v0, v1, v2, v3, v4, v5, v6, v7, v8, v9, v10, v11, v12, v13, v14])), (h2, .inr (10, [.ref h3, v15, v16, v17, v18, v19, v20, v21, v22])), (h3, .inr (11, [v23, .int 0]))]) [0, 1, 2] (by decide) rfl
  have hKc := hK.sub (tys' := []) [] rfl
  have hFc := va_free (wc := [(h0, .inr (16, [.ref h2, v0, v1, v2, v3, v4, v5, v6, v7, v8, v9, v10, v11, v12, v13, v14])), (h2, .inr (10, [.ref h3, v15, v16, v17, v18, v19, v20, v21, v22])), (h3, .inr (11, [v23, .int 0]))]) hD hS hA [0, 1, 2] rfl
  refine vx_callv (vx_runV (As := [.int x0, .int x1, .int x2]) (rest := [.ref h1]) ⟨hx, hb, hml, hown, hts⟩ (kX9_would l dC dI g s.heap.size h0 x0 x1 x2 h2 h3 v0 v1 v2 v3 v4 v5 v6 v7 v8 v9 v10 v11 v12 v13 v14 v15 v16 v17 v18 v19 v20 v21 v22 v23  hlt) (cwV 3 hts gL_would_X9_would rfl rfl rfl (by decide +kernel) ⟨Nat.le_of_ble_eq_true rfl, Nat.le_of_ble_eq_true rfl⟩) ⟨fun a U gg mk q => by obtain ⟨q0, q1, qP, qK, qD, qF⟩ := q; exact ⟨q0, q1, qP, va_K.moved (u := U) (U := U.calling gg mk a) (Vm.Alike.refl U.vm) qK, qD, ns_same qF⟩, va_recv hK hP (ci := 16) (q0 := 0) rfl rfl, fun U hU hW => ⟨rfl, by rw [hU], by rw [hU]; exact hPc, va_K.moved hW.alike hKc, hDc.weaken (fun _ _ _ _ => trivial), ns_call hF hS hFc hU hW⟩⟩ rfl rfl hl.1 rfl (lv_room (Nat.le_of_ble_eq_true rfl)) dL_would_6 ⟨Nat.le_of_ble_eq_true rfl, Nat.le_of_ble_eq_true rfl⟩) hS (fun q _ h => hFc q h) hFc (fun q _ h => hFc q h) (fun E ce q9 u t H1 locs ht hvm hw hB hz1 hk1 hS hc1 hc2 hc3 => ?_) (fun _ _ _ _ _ _ hw _ _ _ _ => False.elim hw)
  obtain rfl : E = "java/lang/IndexOutOfBoundsException" := hB
  obtain ⟨hP, hD⟩ := va_join (wr := []) (w1 := []) hP hD [0, 1, 2] [] rfl rfl (by decide) (by decide) hk1 hFc (fun k q h => by simp at h) ⟨fun i j p q h => by simp at h, fun k q h => by simp at h⟩
  have hK := hK.sub (tys' := []) [] rfl
  generalize H1 = H at hP hS hc1 ⊢
  have hP : va_P (dC, dI) vwCl [] H := hP
  have hD : va_D A [] := hD
  have hK : va_K (dC, dI) vwCl [] s := hK
  refine vx_widen (k := 1) (n := 6) (Nat.le_of_ble_eq_true rfl) (Nat.le_of_ble_eq_true rfl) ?_
  refine vx_catch hown [] ⟨0, 13, 16, 30⟩ [⟨0, 13, 20, 19⟩] htab (fun z hz => by simp at hz) (by decide) (by decide) (hts (.classLink RL 30 "java/lang/IndexOutOfBoundsException") (by decide +kernel)) (va_Nw.use rfl (ns_f10 hF)) hc1 hc2 hc3 ?_
  refine W.eq (g2 := F0 m 16 ls [.ref q9]) rfl ?_
  refine lv_astore (lv' := [(5, .ref q9), (0, .ref h0), (1, .int x0), (2, .int x1), (3, .int x2), (4, .ref h1)]) hx hb dL_would_16 hl (by decide) rfl (fun ls hl => ?_)
  refine lv_iconst (v := 1) hx hb dL_would_18 (by decide) ?_
  have hP9 := hP.sub (ws' := []) [] rfl
  have hD9 := hD.sub (ws' := []) [] (by decide) rfl
  have hK9 := hK.sub (tys' := []) [] rfl
  refine W.widen (k := 1) (n := 6) (Nat.le_of_ble_eq_true rfl) (Nat.le_of_ble_eq_true rfl) ?_
  exact W.iret (v := 1) hx hb hr (fun t ht hW => ⟨⟨_, (), rfl, rfl, by rw [ht]; exact hP9, va_K.moved hW.alike hK9, hD9⟩, hS.F ht⟩) hS.2.2 dL_would_19
set_option maxHeartbeats 4000000 in
set_option maxRecDepth 100000 in
theorem kX16_would (l : Launch) (dC : Nat → ClassId) (dI : Nat → Nat → Nat) (g : Nat → Nat) (sz : Nat) (h0 : Nat) (x0 : Int32) (x1 : Int32) (x2 : Int32) (h1 : Nat) (v0 : Value) (v1 : Value) (v2 : Value) (v3 : Value) (v4 : Value) (v5 : Value) (v6 : Value) (v7 : Value) (v8 : Value) (v9 : Value) : Met l yX16_would wsX16_would ({ frames := 2, cells := 0, slots := 0, locals := 44 }) (va_Pc [.ref h0, .int x0, .int x1, .int x2] (fun U => U.heap.size = sz ∧ va_P (dC, dI) vwCl [(h0, .inr (23, [v0, .ref h1, v1, v2, v3, v4, v5, v6, v7])), (h1, .inr (6, [v8, v9, .int 0]))] U.heap ∧ va_K (dC, dI) vwCl [] U ∧ va_D (fun _ => True) [(h0, .inr (23, [v0, .ref h1, v1, v2, v3, v4, v5, v6, v7])), (h1, .inr (6, [v8, v9, .int 0]))] ∧ ns_F g (va_A [(h0, .inr (23, [v0, .ref h1, v1, v2, v3, v4, v5, v6, v7])), (h1, .inr (6, [v8, v9, .int 0]))] sz) U U.heap)) (va_Qi (fun (r : Int32) (_ : Unit) => r = 0) (fun _ t => va_P (dC, dI) vwCl [(h1, .inr (6, [v8, v9, .int 0])), (h0, .inr (23, [.int 1, .ref h1, v1, v2, v3, v4, v5, v6, v7]))] t.heap ∧ va_K (dC, dI) vwCl [] t ∧ va_D (va_A [(h0, .inr (23, [v0, .ref h1, v1, v2, v3, v4, v5, v6, v7])), (h1, .inr (6, [v8, v9, .int 0]))] sz) [(h1, .inr (6, [v8, v9, .int 0])), (h0, .inr (23, [.int 1, .ref h1, v1, v2, v3, v4, v5, v6, v7]))]) (va_A [(h0, .inr (23, [v0, .ref h1, v1, v2, v3, v4, v5, v6, v7])), (h1, .inr (6, [v8, v9, .int 0]))] sz)) 0 0 (va_A [(h0, .inr (23, [v0, .ref h1, v1, v2, v3, v4, v5, v6, v7])), (h1, .inr (6, [v8, v9, .int 0]))] sz) := by
  refine Met.ofW (cc := cX16_would) (maxL := 4) (ret := (some .int)) (by decide) rfl ?_
  intro p e s m args below meth c s₁ B hml hv
  obtain ⟨rfl, hsz, hP, hK, hD0, hF⟩ := hv
  have hx := B.exec
  have hb := B.bytes
  have hr := B.returns
  have hts := atoms_spec (ws := wsX16_would) B.pre
  have hown : s.vm.findClass RX16 = some m.cls := findClass_of_methodNamed B.named
  have hlocks := B.notSynchronized
  subst hsz
  have hD := hD0.self (sz := s.heap.size)
  generalize hAe : va_A [(h0, .inr (23, [v0, .ref h1, v1, v2, v3, v4, v5, v6, v7])), (h1, .inr (6, [v8, v9, .int 0]))] s.heap.size = A at hD hF ⊢
  have hA : ∀ q : Nat, s.heap.size ≤ q → A q := fun q h => by rw [← hAe]; exact Or.inr h
  have hS : va_S A s.heap s.heap [] := va_S.rf
  have hP : va_P (dC, dI) vwCl [(h0, .inr (23, [v0, .ref h1, v1, v2, v3, v4, v5, v6, v7])), (h1, .inr (6, [v8, v9, .int 0]))] s.heap := hP
  have hl := lv_entry ([.ref h0, .int x0, .int x1, .int x2]) (n := 4) (Nat.le_of_ble_eq_true rfl)
  rw [lg_entry_eq]
  generalize (lg_sl ([.ref h0, .int x0, .int x1, .int x2]) ++ List.replicate (4 - (lg_sl ([.ref h0, .int x0, .int x1, .int x2])).length) Slot.unset).toArray = ls at hl ⊢
  have hl : lv_has ls 4 [(0, .ref h0), (1, .int x0), (2, .int x1), (3, .int x2)] := hl
  refine lv_aload_n hx hb dX16_would_0 rfl (lv_at hl 0 rfl) ?_
  refine lv_aload_n hx hb dX16_would_1 rfl (lv_at hl 0 rfl) ?_
  refine lv_iload_n hx hb dX16_would_2 rfl (lv_at hl 1 rfl) ?_
  have hPc := hP.sub (ws' := [(h0, .inr (23, [v0, .ref h1, v1, v2, v3, v4, v5, v6, v7])), (h1, .inr (6, [v8, v9, .int 0]))]) [0, 1] rfl
  have hDc := hD.sub (ws' := [(h0, .inr (23, [v0, .ref h1, v1, v2, v3, v4, v5, v6, v7])), (h1, .inr (6, [v8, v9, .int 0]))]) [0, 1] (by decide) rfl
  have hKc := hK.sub (tys' := []) [] rfl
  have hFc := va_free (wc := [(h0, .inr (23, [v0, .ref h1, v1, v2, v3, v4, v5, v6, v7])), (h1, .inr (6, [v8, v9, .int 0]))]) hD hS hA [0, 1] rfl
  refine va_calli (va_runV (As := [.int x0]) (rest := [.ref h0]) ⟨hx, hb, hml, hown, hts⟩ (kX16_isNoNode l dC dI g s.heap.size h0 x0 h1 v0 v1 v2 v3 v4 v5 v6 v7 v8 v9 ) (cwV 1 hts gX16_would_X16_isNoNode rfl rfl rfl (by decide +kernel) ⟨Nat.le_of_ble_eq_true rfl, Nat.le_of_ble_eq_true rfl⟩) ⟨fun a U gg mk q => by obtain ⟨q0, q1, qP, qK, qD, qF⟩ := q; exact ⟨q0, q1, qP, va_K.moved (u := U) (U := U.calling gg mk a) (Vm.Alike.refl U.vm) qK, qD, ns_same qF⟩, va_recv hK hP (ci := 23) (q0 := 0) rfl rfl, fun U hU hW => ⟨rfl, by rw [hU], by rw [hU]; exact hPc, va_K.moved hW.alike hKc, hDc.weaken (fun _ _ _ _ => trivial), ns_call hF hS hFc hU hW⟩⟩ rfl rfl hl.1 rfl (lv_room (Nat.le_of_ble_eq_true rfl)) dX16_would_3 ⟨Nat.le_of_ble_eq_true rfl, Nat.le_of_ble_eq_true rfl⟩) hS (fun q _ h => hFc q h) hFc (fun r9 u t H1 locs ht hvm hw hB hz1 hk1 hS => ?_)
  obtain rfl := hw
  obtain ⟨hP1, hK1, hD1⟩ := hB
  rw [ht] at hP1
  have hK1 := va_K.moved hvm.symm hK1
  obtain ⟨hP, hD⟩ := va_join (wr := []) (w1 := [(h0, .inr (23, [v0, .ref h1, v1, v2, v3, v4, v5, v6, v7])), (h1, .inr (6, [v8, v9, .int 0]))]) hP hD [0, 1] [] rfl rfl (by decide) (by decide) hk1 hFc hP1 hD1
  have hK := (hK.sub (tys' := []) [] rfl).app hK1
  generalize H1 = H at hP hS ⊢
  have hP : va_P (dC, dI) vwCl [(h0, .inr (23, [v0, .ref h1, v1, v2, v3, v4, v5, v6, v7])), (h1, .inr (6, [v8, v9, .int 0]))] H := hP
  have hD : va_D A [(h0, .inr (23, [v0, .ref h1, v1, v2, v3, v4, v5, v6, v7])), (h1, .inr (6, [v8, v9, .int 0]))] := hD
  have hK : va_K (dC, dI) vwCl [] s := hK
  refine W.widen (k := 0) (n := 0) (Nat.le_of_ble_eq_true rfl) (Nat.le_of_ble_eq_true rfl) ?_
  refine lv_iconst (v := 1) hx hb dX16_would_6 (by decide) ?_
  have hPc := hP.sub (ws' := [(h0, .inr (23, [v0, .ref h1, v1, v2, v3, v4, v5, v6, v7]))]) [0] rfl
  have hDc := hD.sub (ws' := [(h0, .inr (23, [v0, .ref h1, v1, v2, v3, v4, v5, v6, v7]))]) [0] (by decide) rfl
  have hKc := hK.sub (tys' := []) [] rfl
  have hFc := va_free (wc := [(h0, .inr (23, [v0, .ref h1, v1, v2, v3, v4, v5, v6, v7]))]) hD hS hA [0] rfl
  refine va_calli (va_runV (As := [.int 1, .int 1]) (rest := []) ⟨hx, hb, hml, hown, hts⟩ (kX16_start l dC dI g H.size h0 v0 (.ref h1) v1 v2 v3 v4 v5 v6 v7 ) (cwV 2 hts gX16_would_X16_start rfl rfl rfl (by decide +kernel) ⟨Nat.le_of_ble_eq_true rfl, Nat.le_of_ble_eq_true rfl⟩) ⟨fun a U gg mk q => by obtain ⟨q0, q1, qP, qK, qD, qF⟩ := q; exact ⟨q0, q1, qP, va_K.moved (u := U) (U := U.calling gg mk a) (Vm.Alike.refl U.vm) qK, qD, ns_same qF⟩, va_recv hK hP (ci := 23) (q0 := 0) rfl rfl, fun U hU hW => ⟨rfl, by rw [hU], by rw [hU]; exact hPc, va_K.moved hW.alike hKc, hDc.weaken (fun _ _ _ _ => trivial), ns_call hF hS hFc hU hW⟩⟩ rfl rfl hl.1 rfl (lv_room (Nat.le_of_ble_eq_true rfl)) dX16_would_7 ⟨Nat.le_of_ble_eq_true rfl, Nat.le_of_ble_eq_true rfl⟩) hS (fun q _ h => hFc q h) hFc (fun r9 u t H1 locs ht hvm hw hB hz1 hk1 hS => ?_)
  obtain rfl := hw
  obtain ⟨hP1, hK1, hD1⟩ := hB
  rw [ht] at hP1
  have hK1 := va_K.moved hvm.symm hK1
  obtain ⟨hP, hD⟩ := va_join (wr := [(h1, .inr (6, [v8, v9, .int 0]))]) (w1 := [(h0, .inr (23, [.int 1, .ref h1, v1, v2, v3, v4, v5, v6, v7]))]) hP hD [0] [1] rfl rfl (by decide) (by decide) hk1 hFc hP1 hD1
  have hK := (hK.sub (tys' := []) [] rfl).app hK1
  generalize H1 = H at hP hS ⊢
  have hP : va_P (dC, dI) vwCl [(h1, .inr (6, [v8, v9, .int 0])), (h0, .inr (23, [.int 1, .ref h1, v1, v2, v3, v4, v5, v6, v7]))] H := hP
  have hD : va_D A [(h1, .inr (6, [v8, v9, .int 0])), (h0, .inr (23, [.int 1, .ref h1, v1, v2, v3, v4, v5, v6, v7]))] := hD
  have hK : va_K (dC, dI) vwCl [] s := hK
  refine W.widen (k := 0) (n := 0) (Nat.le_of_ble_eq_true rfl) (Nat.le_of_ble_eq_true rfl) ?_
  refine lv_if_ne (tgt := 46) hx hb dX16_would_10 (by decide) (fun c1 => ?_) (fun c1 => absurd c1 (by decide))
  refine lv_iconst (v := 0) hx hb dX16_would_46 (by decide) ?_
  refine lv_goto (tgt := 79) hx hb dX16_would_47 (by decide) ?_
  have hP9 := hP.sub (ws' := [(h1, .inr (6, [v8, v9, .int 0])), (h0, .inr (23, [.int 1, .ref h1, v1, v2, v3, v4, v5, v6, v7]))]) [0, 1] rfl
  have hD9 := hD.sub (ws' := [(h1, .inr (6, [v8, v9, .int 0])), (h0, .inr (23, [.int 1, .ref h1, v1, v2, v3, v4, v5, v6, v7]))]) [0, 1] (by decide) rfl
  have hK9 := hK.sub (tys' := []) [] rfl
  refine W.widen (k := 0) (n := 0) (Nat.le_of_ble_eq_true rfl) (Nat.le_of_ble_eq_true rfl) ?_
  exact W.iret (v := 0) hx hb hr (fun t ht hW => ⟨⟨_, (), rfl, rfl, by rw [ht]; exact hP9, va_K.moved hW.alike hK9, hD9⟩, hS.F ht⟩) hS.2.2 dX16_would_79
set_option maxHeartbeats 4000000 in
set_option maxRecDepth 100000 in
theorem kX9_narrowest (l : Launch) (dC : Nat → ClassId) (dI : Nat → Nat → Nat) (g : Nat → Nat) (sz : Nat) (h0 : Nat) (x0 : Int32) (h1 : Nat) (h2 : Nat) (v0 : Value) (v1 : Value) (v2 : Value) (v3 : Value) (v4 : Value) (v5 : Value) (v6 : Value) (v7 : Value) (v8 : Value) (v9 : Value) (v10 : Value) (v11 : Value) (v12 : Value) (v13 : Value) (v14 : Value) (v15 : Value) (v16 : Value) (v17 : Value) (v18 : Value) (v19 : Value) (v20 : Value) (v21 : Value) (v22 : Value) (v23 : Value) (hlt : l.stackTraces = false) : vx_Met l yX9_narrowest wsX9_narrowest ({ frames := 7, cells := 1, slots := 6, locals := 103 }) (va_Pc [.ref h0, .int x0] (fun U => U.heap.size = sz ∧ va_P (dC, dI) vwCl [(h0, .inr (16, [.ref h1, v0, v1, v2, v3, v4, v5, v6, v7, v8, v9, v10, v11, v12, v13, v14])), (h1, .inr (10, [.ref h2, v15, v16, v17, v18, v19, v20, v21, v22])), (h2, .inr (11, [v23, .int 0]))] U.heap ∧ va_K (dC, dI) vwCl [] U ∧ va_D (fun _ => True) [(h0, .inr (16, [.ref h1, v0, v1, v2, v3, v4, v5, v6, v7, v8, v9, v10, v11, v12, v13, v14])), (h1, .inr (10, [.ref h2, v15, v16, v17, v18, v19, v20, v21, v22])), (h2, .inr (11, [v23, .int 0]))] ∧ ns_F g (va_A [(h0, .inr (16, [.ref h1, v0, v1, v2, v3, v4, v5, v6, v7, v8, v9, v10, v11, v12, v13, v14])), (h1, .inr (10, [.ref h2, v15, v16, v17, v18, v19, v20, v21, v22])), (h2, .inr (11, [v23, .int 0]))] sz) U U.heap)) (va_Qv (fun _ : Unit => False) (fun _ _ => True) (va_A [(h0, .inr (16, [.ref h1, v0, v1, v2, v3, v4, v5, v6, v7, v8, v9, v10, v11, v12, v13, v14])), (h1, .inr (10, [.ref h2, v15, v16, v17, v18, v19, v20, v21, v22])), (h2, .inr (11, [v23, .int 0]))] sz)) (vx_X (fun _ : Unit => True) (fun E _ _ => E = "java/lang/IndexOutOfBoundsException") (va_A [(h0, .inr (16, [.ref h1, v0, v1, v2, v3, v4, v5, v6, v7, v8, v9, v10, v11, v12, v13, v14])), (h1, .inr (10, [.ref h2, v15, v16, v17, v18, v19, v20, v21, v22])), (h2, .inr (11, [v23, .int 0]))] sz)) 1 6 (va_A [(h0, .inr (16, [.ref h1, v0, v1, v2, v3, v4, v5, v6, v7, v8, v9, v10, v11, v12, v13, v14])), (h1, .inr (10, [.ref h2, v15, v16, v17, v18, v19, v20, v21, v22])), (h2, .inr (11, [v23, .int 0]))] sz) := by
  refine vx_ofW (cc := cX9_narrowest) (maxL := 3) (ret := (some .int)) (by decide) rfl ?_
  intro p e s m args below meth c s₁ B hml hnox hv
  obtain ⟨rfl, hsz, hP, hK, hD0, hF⟩ := hv
  have hx := B.exec
  have hb := B.bytes
  have hr := B.returns
  have hts := atoms_spec (ws := wsX9_narrowest) B.pre
  have hown : s.vm.findClass RX9 = some m.cls := findClass_of_methodNamed B.named
  have hlocks := B.notSynchronized
  subst hsz
  have hD := hD0.self (sz := s.heap.size)
  generalize hAe : va_A [(h0, .inr (16, [.ref h1, v0, v1, v2, v3, v4, v5, v6, v7, v8, v9, v10, v11, v12, v13, v14])), (h1, .inr (10, [.ref h2, v15, v16, v17, v18, v19, v20, v21, v22])), (h2, .inr (11, [v23, .int 0]))] s.heap.size = A at hD hF ⊢
  have hA : ∀ q : Nat, s.heap.size ≤ q → A q := fun q h => by rw [← hAe]; exact Or.inr h
  have hS : va_S A s.heap s.heap [] := va_S.rf
  have hP : va_P (dC, dI) vwCl [(h0, .inr (16, [.ref h1, v0, v1, v2, v3, v4, v5, v6, v7, v8, v9, v10, v11, v12, v13, v14])), (h1, .inr (10, [.ref h2, v15, v16, v17, v18, v19, v20, v21, v22])), (h2, .inr (11, [v23, .int 0]))] s.heap := hP
  have hl := lv_entry ([.ref h0, .int x0]) (n := 3) (Nat.le_of_ble_eq_true rfl)
  rw [lg_entry_eq]
  generalize (lg_sl ([.ref h0, .int x0]) ++ List.replicate (3 - (lg_sl ([.ref h0, .int x0])).length) Slot.unset).toArray = ls at hl ⊢
  have hl : lv_has ls 3 [(0, .ref h0), (1, .int x0)] := hl
  refine lv_aload_n hx hb dX9_narrowest_0 rfl (lv_at hl 0 rfl) ?_
  refine lv_iload_n hx hb dX9_narrowest_1 rfl (lv_at hl 1 rfl) ?_
  have hPc := hP.sub (ws' := [(h0, .inr (16, [.ref h1, v0, v1, v2, v3, v4, v5, v6, v7, v8, v9, v10, v11, v12, v13, v14])), (h1, .inr (10, [.ref h2, v15, v16, v17, v18, v19, v20, v21, v22])), (h2, .inr (11, [v23, .int 0]))]) [0, 1, 2] rfl
  have hDc := hD.sub (ws' := [(h0, .inr (16, [.ref h1, v0, v1, v2, v3, v4, v5, v6, v7, v8, v9, v10, v11, v12, v13, v14])), (h1, .inr (10, [.ref h2, v15, v16, v17, v18, v19, v20, v21, v22])), (h2, .inr (11, [v23, .int 0]))]) [0, 1, 2] (by decide) rfl
  have hKc := hK.sub (tys' := []) [] rfl
  have hFc := va_free (wc := [(h0, .inr (16, [.ref h1, v0, v1, v2, v3, v4, v5, v6, v7, v8, v9, v10, v11, v12, v13, v14])), (h1, .inr (10, [.ref h2, v15, v16, v17, v18, v19, v20, v21, v22])), (h2, .inr (11, [v23, .int 0]))]) hD hS hA [0, 1, 2] rfl
  refine vx_callv (vx_runV (As := [.int x0]) (rest := []) ⟨hx, hb, hml, hown, hts⟩ (kX9_needNode l dC dI g s.heap.size h0 x0 h1 h2 v0 v1 v2 v3 v4 v5 v6 v7 v8 v9 v10 v11 v12 v13 v14 v15 v16 v17 v18 v19 v20 v21 v22 v23  hlt) (cwV 1 hts gX9_narrowest_X9_needNode rfl rfl rfl (by decide +kernel) ⟨Nat.le_of_ble_eq_true rfl, Nat.le_of_ble_eq_true rfl⟩) ⟨fun a U gg mk q => by obtain ⟨q0, q1, qP, qK, qD, qF⟩ := q; exact ⟨q0, q1, qP, va_K.moved (u := U) (U := U.calling gg mk a) (Vm.Alike.refl U.vm) qK, qD, ns_same qF⟩, va_recv hK hP (ci := 16) (q0 := 0) rfl rfl, fun U hU hW => ⟨rfl, by rw [hU], by rw [hU]; exact hPc, va_K.moved hW.alike hKc, hDc.weaken (fun _ _ _ _ => trivial), ns_call hF hS hFc hU hW⟩⟩ rfl rfl hl.1 rfl (lv_room (Nat.le_of_ble_eq_true rfl)) dX9_narrowest_2 ⟨Nat.le_of_ble_eq_true rfl, Nat.le_of_ble_eq_true rfl⟩) hS (fun q _ h => hFc q h) hFc (fun q _ h => hFc q h) (fun E ce q9 u t H1 locs ht hvm hw hB hz1 hk1 hS hc1 hc2 hc3 => ?_) (fun _ _ _ _ _ _ hw _ _ _ _ => False.elim hw)
  obtain rfl : E = "java/lang/IndexOutOfBoundsException" := hB
  exact vx_out (fun x hx => (hnox x hx).elim) hlocks hc1 hc2 hc3 (fun t9 ht9 hal => ⟨(), trivial, rfl, hS.F ht9⟩) hS.2.2 (Nat.le_of_ble_eq_true rfl) (Nat.le_of_ble_eq_true rfl)
set_option maxHeartbeats 4000000 in
set_option maxRecDepth 100000 in
theorem kL_narrowest (l : Launch) (dC : Nat → ClassId) (dI : Nat → Nat → Nat) (g : Nat → Nat) (sz : Nat) (h0 : Nat) (x0 : Int32) (h1 : Nat) (h2 : Nat) (h3 : Nat) (v0 : Value) (v1 : Value) (v2 : Value) (v3 : Value) (v4 : Value) (v5 : Value) (v6 : Value) (v7 : Value) (v8 : Value) (v9 : Value) (v10 : Value) (v11 : Value) (v12 : Value) (v13 : Value) (v14 : Value) (v15 : Value) (v16 : Value) (v17 : Value) (v18 : Value) (v19 : Value) (v20 : Value) (v21 : Value) (v22 : Value) (v23 : Value) (hlt : l.stackTraces = false) : Met l yL_narrowest wsL_narrowest ({ frames := 8, cells := 1, slots := 6, locals := 125 }) (va_Pc [.ref h0, .int x0, .ref h1] (fun U => U.heap.size = sz ∧ va_P (dC, dI) vwCl [(h0, .inr (16, [.ref h2, v0, v1, v2, v3, v4, v5, v6, v7, v8, v9, v10, v11, v12, v13, v14])), (h2, .inr (10, [.ref h3, v15, v16, v17, v18, v19, v20, v21, v22])), (h3, .inr (11, [v23, .int 0]))] U.heap ∧ va_K (dC, dI) vwCl [] U ∧ va_D (fun _ => True) [(h0, .inr (16, [.ref h2, v0, v1, v2, v3, v4, v5, v6, v7, v8, v9, v10, v11, v12, v13, v14])), (h2, .inr (10, [.ref h3, v15, v16, v17, v18, v19, v20, v21, v22])), (h3, .inr (11, [v23, .int 0]))] ∧ ns_F g (va_A [(h0, .inr (16, [.ref h2, v0, v1, v2, v3, v4, v5, v6, v7, v8, v9, v10, v11, v12, v13, v14])), (h2, .inr (10, [.ref h3, v15, v16, v17, v18, v19, v20, v21, v22])), (h3, .inr (11, [v23, .int 0]))] sz) U U.heap)) (va_Qi (fun (r : Int32) (_ : Unit) => r = 1) (fun _ t => va_P (dC, dI) vwCl [] t.heap ∧ va_K (dC, dI) vwCl [] t ∧ va_D (va_A [(h0, .inr (16, [.ref h2, v0, v1, v2, v3, v4, v5, v6, v7, v8, v9, v10, v11, v12, v13, v14])), (h2, .inr (10, [.ref h3, v15, v16, v17, v18, v19, v20, v21, v22])), (h3, .inr (11, [v23, .int 0]))] sz) []) (va_A [(h0, .inr (16, [.ref h2, v0, v1, v2, v3, v4, v5, v6, v7, v8, v9, v10, v11, v12, v13, v14])), (h2, .inr (10, [.ref h3, v15, v16, v17, v18, v19, v20, v21, v22])), (h3, .inr (11, [v23, .int 0]))] sz)) 1 6 (va_A [(h0, .inr (16, [.ref h2, v0, v1, v2, v3, v4, v5, v6, v7, v8, v9, v10, v11, v12, v13, v14])), (h2, .inr (10, [.ref h3, v15, v16, v17, v18, v19, v20, v21, v22])), (h3, .inr (11, [v23, .int 0]))] sz) := by
  refine va_MetW (cc := cL_narrowest) (maxL := 4) (ret := (some .int)) (hh := [(0, 10, 13, 30)]) (by decide) rfl ?_
  intro p e s m args below meth c s₁ B hml hv
  obtain ⟨rfl, hsz, hP, hK, hD0, hF⟩ := hv
  have hx := B.exec
  have hb := B.bytes
  have hr := B.returns
  have hts := atoms_spec (ws := wsL_narrowest) B.pre
  have hown : s.vm.findClass RL = some m.cls := findClass_of_methodNamed B.named
  have hlocks := B.notSynchronized
  have htab : c.exceptionTable.toList = [⟨0, 10, 13, 30⟩] := vx_table B (hts _ List.mem_cons_self)
  subst hsz
  have hD := hD0.self (sz := s.heap.size)
  generalize hAe : va_A [(h0, .inr (16, [.ref h2, v0, v1, v2, v3, v4, v5, v6, v7, v8, v9, v10, v11, v12, v13, v14])), (h2, .inr (10, [.ref h3, v15, v16, v17, v18, v19, v20, v21, v22])), (h3, .inr (11, [v23, .int 0]))] s.heap.size = A at hD hF ⊢
  have hA : ∀ q : Nat, s.heap.size ≤ q → A q := fun q h => by rw [← hAe]; exact Or.inr h
  have hS : va_S A s.heap s.heap [] := va_S.rf
  have hP : va_P (dC, dI) vwCl [(h0, .inr (16, [.ref h2, v0, v1, v2, v3, v4, v5, v6, v7, v8, v9, v10, v11, v12, v13, v14])), (h2, .inr (10, [.ref h3, v15, v16, v17, v18, v19, v20, v21, v22])), (h3, .inr (11, [v23, .int 0]))] s.heap := hP
  have hl := lv_entry ([.ref h0, .int x0, .ref h1]) (n := 4) (Nat.le_of_ble_eq_true rfl)
  rw [lg_entry_eq]
  generalize (lg_sl ([.ref h0, .int x0, .ref h1]) ++ List.replicate (4 - (lg_sl ([.ref h0, .int x0, .ref h1])).length) Slot.unset).toArray = ls at hl ⊢
  have hl : lv_has ls 4 [(0, .ref h0), (1, .int x0), (2, .ref h1)] := hl
  refine lv_aload_n hx hb dL_narrowest_0 rfl (lv_at hl 2 rfl) ?_
  refine lv_aload_n hx hb dL_narrowest_1 rfl (lv_at hl 0 rfl) ?_
  refine lv_iload_n hx hb dL_narrowest_2 rfl (lv_at hl 1 rfl) ?_
  have hPc := hP.sub (ws' := [(h0, .inr (16, [.ref h2, v0, v1, v2, v3, v4, v5, v6, v7, v8, v9, v10, v11, v12, v13, v14])), (h2, .inr (10, [.ref h3, v15, v16, v17, v18, v19, v20, v21, v22])), (h3, .inr (11, [v23, .int 0]))]) [0, 1, 2] rfl
  have hDc := hD.sub (ws' := [(h0, .inr (16, [.ref h2, v0, v1, v2, v3, v4, v5, v6, v7, v8, v9, v10, v11, v12, v13, v14])), (h2, .inr (10, [.ref h3, v15, v16, v17, v18, v19, v20, v21, v22])), (h3, .inr (11, [v23, .int 0]))]) [0, 1, 2] (by decide) rfl
  have hKc := hK.sub (tys' := []) [] rfl
  have hFc := va_free (wc := [(h0, .inr (16, [.ref h2, v0, v1, v2, v3, v4, v5, v6, v7, v8, v9, v10, v11, v12, v13, v14])), (h2, .inr (10, [.ref h3, v15, v16, v17, v18, v19, v20, v21, v22])), (h3, .inr (11, [v23, .int 0]))]) hD hS hA [0, 1, 2] rfl
  refine vx_callv (vx_runV (As := [.int x0]) (rest := [.ref h1]) ⟨hx, hb, hml, hown, hts⟩ (kX9_narrowest l dC dI g s.heap.size h0 x0 h2 h3 v0 v1 v2 v3 v4 v5 v6 v7 v8 v9 v10 v11 v12 v13 v14 v15 v16 v17 v18 v19 v20 v21 v22 v23  hlt) (cwV 1 hts gL_narrowest_X9_narrowest rfl rfl rfl (by decide +kernel) ⟨Nat.le_of_ble_eq_true rfl, Nat.le_of_ble_eq_true rfl⟩) ⟨fun a U gg mk q => by obtain ⟨q0, q1, qP, qK, qD, qF⟩ := q; exact ⟨q0, q1, qP, va_K.moved (u := U) (U := U.calling gg mk a) (Vm.Alike.refl U.vm) qK, qD, ns_same qF⟩, va_recv hK hP (ci := 16) (q0 := 0) rfl rfl, fun U hU hW => ⟨rfl, by rw [hU], by rw [hU]; exact hPc, va_K.moved hW.alike hKc, hDc.weaken (fun _ _ _ _ => trivial), ns_call hF hS hFc hU hW⟩⟩ rfl rfl hl.1 rfl (lv_room (Nat.le_of_ble_eq_true rfl)) dL_narrowest_3 ⟨Nat.le_of_ble_eq_true rfl, Nat.le_of_ble_eq_true rfl⟩) hS (fun q _ h => hFc q h) hFc (fun q _ h => hFc q h) (fun E ce q9 u t H1 locs ht hvm hw hB hz1 hk1 hS hc1 hc2 hc3 => ?_) (fun _ _ _ _ _ _ hw _ _ _ _ => False.elim hw)
  obtain rfl : E = "java/lang/IndexOutOfBoundsException" := hB
  obtain ⟨hP, hD⟩ := va_join (wr := []) (w1 := []) hP hD [0, 1, 2] [] rfl rfl (by decide) (by decide) hk1 hFc (fun k q h => by simp at h) ⟨fun i j p q h => by simp at h, fun k q h => by simp at h⟩
  have hK := hK.sub (tys' := []) [] rfl
  generalize H1 = H at hP hS hc1 ⊢
  have hP : va_P (dC, dI) vwCl [] H := hP
  have hD : va_D A [] := hD
  have hK : va_K (dC, dI) vwCl [] s := hK
  refine vx_widen (k := 1) (n := 6) (Nat.le_of_ble_eq_true rfl) (Nat.le_of_ble_eq_true rfl) ?_
  refine vx_catch hown [] ⟨0, 10, 13, 30⟩ [] htab (fun z hz => by simp at hz) (by decide) (by decide) (hts (.classLink RL 30 "java/lang/IndexOutOfBoundsException") (by decide +kernel)) (va_Nw.use rfl (ns_f10 hF)) hc1 hc2 hc3 ?_
  refine W.eq (g2 := F0 m 13 ls [.ref q9]) rfl ?_
  refine lv_astore_n (lv' := [(3, .ref q9), (0, .ref h0), (1, .int x0), (2, .ref h1)]) hx hb dL_narrowest_13 rfl hl (by decide) rfl (fun ls hl => ?_)
  refine lv_iconst (v := 1) hx hb dL_narrowest_14 (by decide) ?_
  have hP9 := hP.sub (ws' := []) [] rfl
  have hD9 := hD.sub (ws' := []) [] (by decide) rfl
  have hK9 := hK.sub (tys' := []) [] rfl
  refine W.widen (k := 1) (n := 6) (Nat.le_of_ble_eq_true rfl) (Nat.le_of_ble_eq_true rfl) ?_
  exact W.iret (v := 1) hx hb hr (fun t ht hW => ⟨⟨_, (), rfl, rfl, by rw [ht]; exact hP9, va_K.moved hW.alike hK9, hD9⟩, hS.F ht⟩) hS.2.2 dL_narrowest_15
set_option maxHeartbeats 4000000 in
set_option maxRecDepth 100000 in
theorem kX16_narrowest (l : Launch) (dC : Nat → ClassId) (dI : Nat → Nat → Nat) (g : Nat → Nat) (sz : Nat) (h0 : Nat) (x0 : Int32) (h1 : Nat) (v0 : Value) (v1 : Value) (v2 : Value) (v3 : Value) (v4 : Value) (v5 : Value) (v6 : Value) (v7 : Value) (v8 : Value) (v9 : Value) : Met l yX16_narrowest wsX16_narrowest ({ frames := 2, cells := 0, slots := 0, locals := 44 }) (va_Pc [.ref h0, .int x0] (fun U => U.heap.size = sz ∧ va_P (dC, dI) vwCl [(h0, .inr (23, [v0, .ref h1, v1, v2, v3, v4, v5, v6, v7])), (h1, .inr (6, [v8, v9, .int 0]))] U.heap ∧ va_K (dC, dI) vwCl [] U ∧ va_D (fun _ => True) [(h0, .inr (23, [v0, .ref h1, v1, v2, v3, v4, v5, v6, v7])), (h1, .inr (6, [v8, v9, .int 0]))] ∧ ns_F g (va_A [(h0, .inr (23, [v0, .ref h1, v1, v2, v3, v4, v5, v6, v7])), (h1, .inr (6, [v8, v9, .int 0]))] sz) U U.heap)) (va_Qi (fun (r : Int32) (_ : Unit) => r = 0) (fun _ t => va_P (dC, dI) vwCl [(h1, .inr (6, [v8, v9, .int 0])), (h0, .inr (23, [.int 1, .ref h1, v1, v2, v3, v4, v5, v6, v7]))] t.heap ∧ va_K (dC, dI) vwCl [] t ∧ va_D (va_A [(h0, .inr (23, [v0, .ref h1, v1, v2, v3, v4, v5, v6, v7])), (h1, .inr (6, [v8, v9, .int 0]))] sz) [(h1, .inr (6, [v8, v9, .int 0])), (h0, .inr (23, [.int 1, .ref h1, v1, v2, v3, v4, v5, v6, v7]))]) (va_A [(h0, .inr (23, [v0, .ref h1, v1, v2, v3, v4, v5, v6, v7])), (h1, .inr (6, [v8, v9, .int 0]))] sz)) 0 0 (va_A [(h0, .inr (23, [v0, .ref h1, v1, v2, v3, v4, v5, v6, v7])), (h1, .inr (6, [v8, v9, .int 0]))] sz) := by
  refine Met.ofW (cc := cX16_narrowest) (maxL := 3) (ret := (some .int)) (by decide) rfl ?_
  intro p e s m args below meth c s₁ B hml hv
  obtain ⟨rfl, hsz, hP, hK, hD0, hF⟩ := hv
  have hx := B.exec
  have hb := B.bytes
  have hr := B.returns
  have hts := atoms_spec (ws := wsX16_narrowest) B.pre
  have hown : s.vm.findClass RX16 = some m.cls := findClass_of_methodNamed B.named
  have hlocks := B.notSynchronized
  subst hsz
  have hD := hD0.self (sz := s.heap.size)
  generalize hAe : va_A [(h0, .inr (23, [v0, .ref h1, v1, v2, v3, v4, v5, v6, v7])), (h1, .inr (6, [v8, v9, .int 0]))] s.heap.size = A at hD hF ⊢
  have hA : ∀ q : Nat, s.heap.size ≤ q → A q := fun q h => by rw [← hAe]; exact Or.inr h
  have hS : va_S A s.heap s.heap [] := va_S.rf
  have hP : va_P (dC, dI) vwCl [(h0, .inr (23, [v0, .ref h1, v1, v2, v3, v4, v5, v6, v7])), (h1, .inr (6, [v8, v9, .int 0]))] s.heap := hP
  have hl := lv_entry ([.ref h0, .int x0]) (n := 3) (Nat.le_of_ble_eq_true rfl)
  rw [lg_entry_eq]
  generalize (lg_sl ([.ref h0, .int x0]) ++ List.replicate (3 - (lg_sl ([.ref h0, .int x0])).length) Slot.unset).toArray = ls at hl ⊢
  have hl : lv_has ls 3 [(0, .ref h0), (1, .int x0)] := hl
  refine lv_aload_n hx hb dX16_narrowest_0 rfl (lv_at hl 0 rfl) ?_
  refine lv_aload_n hx hb dX16_narrowest_1 rfl (lv_at hl 0 rfl) ?_
  refine lv_iload_n hx hb dX16_narrowest_2 rfl (lv_at hl 1 rfl) ?_
  have hPc := hP.sub (ws' := [(h0, .inr (23, [v0, .ref h1, v1, v2, v3, v4, v5, v6, v7])), (h1, .inr (6, [v8, v9, .int 0]))]) [0, 1] rfl
  have hDc := hD.sub (ws' := [(h0, .inr (23, [v0, .ref h1, v1, v2, v3, v4, v5, v6, v7])), (h1, .inr (6, [v8, v9, .int 0]))]) [0, 1] (by decide) rfl
  have hKc := hK.sub (tys' := []) [] rfl
  have hFc := va_free (wc := [(h0, .inr (23, [v0, .ref h1, v1, v2, v3, v4, v5, v6, v7])), (h1, .inr (6, [v8, v9, .int 0]))]) hD hS hA [0, 1] rfl
  refine va_calli (va_runV (As := [.int x0]) (rest := [.ref h0]) ⟨hx, hb, hml, hown, hts⟩ (kX16_isNoNode l dC dI g s.heap.size h0 x0 h1 v0 v1 v2 v3 v4 v5 v6 v7 v8 v9 ) (cwV 1 hts gX16_narrowest_X16_isNoNode rfl rfl rfl (by decide +kernel) ⟨Nat.le_of_ble_eq_true rfl, Nat.le_of_ble_eq_true rfl⟩) ⟨fun a U gg mk q => by obtain ⟨q0, q1, qP, qK, qD, qF⟩ := q; exact ⟨q0, q1, qP, va_K.moved (u := U) (U := U.calling gg mk a) (Vm.Alike.refl U.vm) qK, qD, ns_same qF⟩, va_recv hK hP (ci := 23) (q0 := 0) rfl rfl, fun U hU hW => ⟨rfl, by rw [hU], by rw [hU]; exact hPc, va_K.moved hW.alike hKc, hDc.weaken (fun _ _ _ _ => trivial), ns_call hF hS hFc hU hW⟩⟩ rfl rfl hl.1 rfl (lv_room (Nat.le_of_ble_eq_true rfl)) dX16_narrowest_3 ⟨Nat.le_of_ble_eq_true rfl, Nat.le_of_ble_eq_true rfl⟩) hS (fun q _ h => hFc q h) hFc (fun r9 u t H1 locs ht hvm hw hB hz1 hk1 hS => ?_)
  obtain rfl := hw
  obtain ⟨hP1, hK1, hD1⟩ := hB
  rw [ht] at hP1
  have hK1 := va_K.moved hvm.symm hK1
  obtain ⟨hP, hD⟩ := va_join (wr := []) (w1 := [(h0, .inr (23, [v0, .ref h1, v1, v2, v3, v4, v5, v6, v7])), (h1, .inr (6, [v8, v9, .int 0]))]) hP hD [0, 1] [] rfl rfl (by decide) (by decide) hk1 hFc hP1 hD1
  have hK := (hK.sub (tys' := []) [] rfl).app hK1
  generalize H1 = H at hP hS ⊢
  have hP : va_P (dC, dI) vwCl [(h0, .inr (23, [v0, .ref h1, v1, v2, v3, v4, v5, v6, v7])), (h1, .inr (6, [v8, v9, .int 0]))] H := hP
  have hD : va_D A [(h0, .inr (23, [v0, .ref h1, v1, v2, v3, v4, v5, v6, v7])), (h1, .inr (6, [v8, v9, .int 0]))] := hD
  have hK : va_K (dC, dI) vwCl [] s := hK
  refine W.widen (k := 0) (n := 0) (Nat.le_of_ble_eq_true rfl) (Nat.le_of_ble_eq_true rfl) ?_
  refine lv_iconst (v := 1) hx hb dX16_narrowest_6 (by decide) ?_
  have hPc := hP.sub (ws' := [(h0, .inr (23, [v0, .ref h1, v1, v2, v3, v4, v5, v6, v7]))]) [0] rfl
  have hDc := hD.sub (ws' := [(h0, .inr (23, [v0, .ref h1, v1, v2, v3, v4, v5, v6, v7]))]) [0] (by decide) rfl
  have hKc := hK.sub (tys' := []) [] rfl
  have hFc := va_free (wc := [(h0, .inr (23, [v0, .ref h1, v1, v2, v3, v4, v5, v6, v7]))]) hD hS hA [0] rfl
  refine va_calli (va_runV (As := [.int 1, .int 1]) (rest := []) ⟨hx, hb, hml, hown, hts⟩ (kX16_start l dC dI g H.size h0 v0 (.ref h1) v1 v2 v3 v4 v5 v6 v7 ) (cwV 2 hts gX16_narrowest_X16_start rfl rfl rfl (by decide +kernel) ⟨Nat.le_of_ble_eq_true rfl, Nat.le_of_ble_eq_true rfl⟩) ⟨fun a U gg mk q => by obtain ⟨q0, q1, qP, qK, qD, qF⟩ := q; exact ⟨q0, q1, qP, va_K.moved (u := U) (U := U.calling gg mk a) (Vm.Alike.refl U.vm) qK, qD, ns_same qF⟩, va_recv hK hP (ci := 23) (q0 := 0) rfl rfl, fun U hU hW => ⟨rfl, by rw [hU], by rw [hU]; exact hPc, va_K.moved hW.alike hKc, hDc.weaken (fun _ _ _ _ => trivial), ns_call hF hS hFc hU hW⟩⟩ rfl rfl hl.1 rfl (lv_room (Nat.le_of_ble_eq_true rfl)) dX16_narrowest_7 ⟨Nat.le_of_ble_eq_true rfl, Nat.le_of_ble_eq_true rfl⟩) hS (fun q _ h => hFc q h) hFc (fun r9 u t H1 locs ht hvm hw hB hz1 hk1 hS => ?_)
  obtain rfl := hw
  obtain ⟨hP1, hK1, hD1⟩ := hB
  rw [ht] at hP1
  have hK1 := va_K.moved hvm.symm hK1
  obtain ⟨hP, hD⟩ := va_join (wr := [(h1, .inr (6, [v8, v9, .int 0]))]) (w1 := [(h0, .inr (23, [.int 1, .ref h1, v1, v2, v3, v4, v5, v6, v7]))]) hP hD [0] [1] rfl rfl (by decide) (by decide) hk1 hFc hP1 hD1
  have hK := (hK.sub (tys' := []) [] rfl).app hK1
  generalize H1 = H at hP hS ⊢
  have hP : va_P (dC, dI) vwCl [(h1, .inr (6, [v8, v9, .int 0])), (h0, .inr (23, [.int 1, .ref h1, v1, v2, v3, v4, v5, v6, v7]))] H := hP
  have hD : va_D A [(h1, .inr (6, [v8, v9, .int 0])), (h0, .inr (23, [.int 1, .ref h1, v1, v2, v3, v4, v5, v6, v7]))] := hD
  have hK : va_K (dC, dI) vwCl [] s := hK
  refine W.widen (k := 0) (n := 0) (Nat.le_of_ble_eq_true rfl) (Nat.le_of_ble_eq_true rfl) ?_
  refine lv_if_eq (tgt := 15) hx hb dX16_narrowest_10 (by decide) (fun c1 => absurd c1 (by decide)) (fun c1 => ?_)
  refine lv_iconst (v := 0) hx hb dX16_narrowest_13 (by decide) ?_
  have hP9 := hP.sub (ws' := [(h1, .inr (6, [v8, v9, .int 0])), (h0, .inr (23, [.int 1, .ref h1, v1, v2, v3, v4, v5, v6, v7]))]) [0, 1] rfl
  have hD9 := hD.sub (ws' := [(h1, .inr (6, [v8, v9, .int 0])), (h0, .inr (23, [.int 1, .ref h1, v1, v2, v3, v4, v5, v6, v7]))]) [0, 1] (by decide) rfl
  have hK9 := hK.sub (tys' := []) [] rfl
  refine W.widen (k := 0) (n := 0) (Nat.le_of_ble_eq_true rfl) (Nat.le_of_ble_eq_true rfl) ?_
  exact W.iret (v := 0) hx hb hr (fun t ht hW => ⟨⟨_, (), rfl, rfl, by rw [ht]; exact hP9, va_K.moved hW.alike hK9, hD9⟩, hS.F ht⟩) hS.2.2 dX16_narrowest_14
set_option maxHeartbeats 4000000 in
set_option maxRecDepth 100000 in
theorem kX9_least (l : Launch) (dC : Nat → ClassId) (dI : Nat → Nat → Nat) (g : Nat → Nat) (sz : Nat) (h0 : Nat) (x0 : Int32) (x1 : Int32) (h1 : Nat) (h2 : Nat) (v0 : Value) (v1 : Value) (v2 : Value) (v3 : Value) (v4 : Value) (v5 : Value) (v6 : Value) (v7 : Value) (v8 : Value) (v9 : Value) (v10 : Value) (v11 : Value) (v12 : Value) (v13 : Value) (v14 : Value) (v15 : Value) (v16 : Value) (v17 : Value) (v18 : Value) (v19 : Value) (v20 : Value) (v21 : Value) (v22 : Value) (v23 : Value) (hlt : l.stackTraces = false) : vx_Met l yX9_least wsX9_least ({ frames := 7, cells := 1, slots := 6, locals := 103 }) (va_Pc [.ref h0, .int x0, .int x1] (fun U => U.heap.size = sz ∧ va_P (dC, dI) vwCl [(h0, .inr (16, [.ref h1, v0, v1, v2, v3, v4, v5, v6, v7, v8, v9, v10, v11, v12, v13, v14])), (h1, .inr (10, [.ref h2, v15, v16, v17, v18, v19, v20, v21, v22])), (h2, .inr (11, [v23, .int 0]))] U.heap ∧ va_K (dC, dI) vwCl [] U ∧ va_D (fun _ => True) [(h0, .inr (16, [.ref h1, v0, v1, v2, v3, v4, v5, v6, v7, v8, v9, v10, v11, v12, v13, v14])), (h1, .inr (10, [.ref h2, v15, v16, v17, v18, v19, v20, v21, v22])), (h2, .inr (11, [v23, .int 0]))] ∧ ns_F g (va_A [(h0, .inr (16, [.ref h1, v0, v1, v2, v3, v4, v5, v6, v7, v8, v9, v10, v11, v12, v13, v14])), (h1, .inr (10, [.ref h2, v15, v16, v17, v18, v19, v20, v21, v22])), (h2, .inr (11, [v23, .int 0]))] sz) U U.heap)) (va_Qv (fun _ : Unit => False) (fun _ _ => True) (va_A [(h0, .inr (16, [.ref h1, v0, v1, v2, v3, v4, v5, v6, v7, v8, v9, v10, v11, v12, v13, v14])), (h1, .inr (10, [.ref h2, v15, v16, v17, v18, v19, v20, v21, v22])), (h2, .inr (11, [v23, .int 0]))] sz)) (vx_X (fun _ : Unit => True) (fun E _ _ => E = "java/lang/IndexOutOfBoundsException") (va_A [(h0, .inr (16, [.ref h1, v0, v1, v2, v3, v4, v5, v6, v7, v8, v9, v10, v11, v12, v13, v14])), (h1, .inr (10, [.ref h2, v15, v16, v17, v18, v19, v20, v21, v22])), (h2, .inr (11, [v23, .int 0]))] sz)) 1 6 (va_A [(h0, .inr (16, [.ref h1, v0, v1, v2, v3, v4, v5, v6, v7, v8, v9, v10, v11, v12, v13, v14])), (h1, .inr (10, [.ref h2, v15, v16, v17, v18, v19, v20, v21, v22])), (h2, .inr (11, [v23, .int 0]))] sz) := by
  refine vx_ofW (cc := cX9_least) (maxL := 3) (ret := (some .int)) (by decide) rfl ?_
  intro p e s m args below meth c s₁ B hml hnox hv
  obtain ⟨rfl, hsz, hP, hK, hD0, hF⟩ := hv
  have hx := B.exec
  have hb := B.bytes
  have hr := B.returns
  have hts := atoms_spec (ws := wsX9_least) B.pre
  have hown : s.vm.findClass RX9 = some m.cls := findClass_of_methodNamed B.named
  have hlocks := B.notSynchronized
  subst hsz
  have hD := hD0.self (sz := s.heap.size)
  generalize hAe : va_A [(h0, .inr (16, [.ref h1, v0, v1, v2, v3, v4, v5, v6, v7, v8, v9, v10, v11, v12, v13, v14])), (h1, .inr (10, [.ref h2, v15, v16, v17, v18, v19, v20, v21, v22])), (h2, .inr (11, [v23, .int 0]))] s.heap.size = A at hD hF ⊢
  have hA : ∀ q : Nat, s.heap.size ≤ q → A q := fun q h => by rw [← hAe]; exact Or.inr h
  have hS : va_S A s.heap s.heap [] := va_S.rf
  have hP : va_P (dC, dI) vwCl [(h0, .inr (16, [.ref h1, v0, v1, v2, v3, v4, v5, v6, v7, v8, v9, v10, v11, v12, v13, v14])), (h1, .inr (10, [.ref h2, v15, v16, v17, v18, v19, v20, v21, v22])), (h2, .inr (11, [v23, .int 0]))] s.heap := hP
  have hl := lv_entry ([.ref h0, .int x0, .int x1]) (n := 3) (Nat.le_of_ble_eq_true rfl)
  rw [lg_entry_eq]
  generalize (lg_sl ([.ref h0, .int x0, .int x1]) ++ List.replicate (3 - (lg_sl ([.ref h0, .int x0, .int x1])).length) Slot.unset).toArray = ls at hl ⊢
  have hl : lv_has ls 3 [(0, .ref h0), (1, .int x0), (2, .int x1)] := hl
  refine lv_aload_n hx hb dX9_least_0 rfl (lv_at hl 0 rfl) ?_
  refine lv_iload_n hx hb dX9_least_1 rfl (lv_at hl 1 rfl) ?_
  have hPc := hP.sub (ws' := [(h0, .inr (16, [.ref h1, v0, v1, v2, v3, v4, v5, v6, v7, v8, v9, v10, v11, v12, v13, v14])), (h1, .inr (10, [.ref h2, v15, v16, v17, v18, v19, v20, v21, v22])), (h2, .inr (11, [v23, .int 0]))]) [0, 1, 2] rfl
  have hDc := hD.sub (ws' := [(h0, .inr (16, [.ref h1, v0, v1, v2, v3, v4, v5, v6, v7, v8, v9, v10, v11, v12, v13, v14])), (h1, .inr (10, [.ref h2, v15, v16, v17, v18, v19, v20, v21, v22])), (h2, .inr (11, [v23, .int 0]))]) [0, 1, 2] (by decide) rfl
  have hKc := hK.sub (tys' := []) [] rfl
  have hFc := va_free (wc := [(h0, .inr (16, [.ref h1, v0, v1, v2, v3, v4, v5, v6, v7, v8, v9, v10, v11, v12, v13, v14])), (h1, .inr (10, [.ref h2, v15, v16, v17, v18, v19, v20, v21, v22])), (h2, .inr (11, [v23, .int 0]))]) hD hS hA [0, 1, 2] rfl
  refine vx_callv (vx_runV (As := [.int x0]) (rest := []) ⟨hx, hb, hml, hown, hts⟩ (kX9_needNode l dC dI g s.heap.size h0 x0 h1 h2 v0 v1 v2 v3 v4 v5 v6 v7 v8 v9 v10 v11 v12 v13 v14 v15 v16 v17 v18 v19 v20 v21 v22 v23  hlt) (cwV 1 hts gX9_least_X9_needNode rfl rfl rfl (by decide +kernel) ⟨Nat.le_of_ble_eq_true rfl, Nat.le_of_ble_eq_true rfl⟩) ⟨fun a U gg mk q => by obtain ⟨q0, q1, qP, qK, qD, qF⟩ := q; exact ⟨q0, q1, qP, va_K.moved (u := U) (U := U.calling gg mk a) (Vm.Alike.refl U.vm) qK, qD, ns_same qF⟩, va_recv hK hP (ci := 16) (q0 := 0) rfl rfl, fun U hU hW => ⟨rfl, by rw [hU], by rw [hU]; exact hPc, va_K.moved hW.alike hKc, hDc.weaken (fun _ _ _ _ => trivial), ns_call hF hS hFc hU hW⟩⟩ rfl rfl hl.1 rfl (lv_room (Nat.le_of_ble_eq_true rfl)) dX9_least_2 ⟨Nat.le_of_ble_eq_true rfl, Nat.le_of_ble_eq_true rfl⟩) hS (fun q _ h => hFc q h) hFc (fun q _ h => hFc q h) (fun E ce q9 u t H1 locs ht hvm hw hB hz1 hk1 hS hc1 hc2 hc3 => ?_) (fun _ _ _ _ _ _ hw _ _ _ _ => False.elim hw)
  obtain rfl : E = "java/lang/IndexOutOfBoundsException" := hB
  exact vx_out (fun x hx => (hnox x hx).elim) hlocks hc1 hc2 hc3 (fun t9 ht9 hal => ⟨(), trivial, rfl, hS.F ht9⟩) hS.2.2 (Nat.le_of_ble_eq_true rfl) (Nat.le_of_ble_eq_true rfl)
set_option maxHeartbeats 4000000 in
set_option maxRecDepth 100000 in
theorem kL_least (l : Launch) (dC : Nat → ClassId) (dI : Nat → Nat → Nat) (g : Nat → Nat) (sz : Nat) (h0 : Nat) (x0 : Int32) (x1 : Int32) (h1 : Nat) (h2 : Nat) (h3 : Nat) (v0 : Value) (v1 : Value) (v2 : Value) (v3 : Value) (v4 : Value) (v5 : Value) (v6 : Value) (v7 : Value) (v8 : Value) (v9 : Value) (v10 : Value) (v11 : Value) (v12 : Value) (v13 : Value) (v14 : Value) (v15 : Value) (v16 : Value) (v17 : Value) (v18 : Value) (v19 : Value) (v20 : Value) (v21 : Value) (v22 : Value) (v23 : Value) (hlt : l.stackTraces = false) : Met l yL_least wsL_least ({ frames := 8, cells := 1, slots := 6, locals := 125 }) (va_Pc [.ref h0, .int x0, .int x1, .ref h1] (fun U => U.heap.size = sz ∧ va_P (dC, dI) vwCl [(h0, .inr (16, [.ref h2, v0, v1, v2, v3, v4, v5, v6, v7, v8, v9, v10, v11, v12, v13, v14])), (h2, .inr (10, [.ref h3, v15, v16, v17, v18, v19, v20, v21, v22])), (h3, .inr (11, [v23, .int 0]))] U.heap ∧ va_K (dC, dI) vwCl [] U ∧ va_D (fun _ => True) [(h0, .inr (16, [.ref h2, v0, v1, v2, v3, v4, v5, v6, v7, v8, v9, v10, v11, v12, v13, v14])), (h2, .inr (10, [.ref h3, v15, v16, v17, v18, v19, v20, v21, v22])), (h3, .inr (11, [v23, .int 0]))] ∧ ns_F g (va_A [(h0, .inr (16, [.ref h2, v0, v1, v2, v3, v4, v5, v6, v7, v8, v9, v10, v11, v12, v13, v14])), (h2, .inr (10, [.ref h3, v15, v16, v17, v18, v19, v20, v21, v22])), (h3, .inr (11, [v23, .int 0]))] sz) U U.heap)) (va_Qi (fun (r : Int32) (_ : Unit) => r = 1) (fun _ t => va_P (dC, dI) vwCl [] t.heap ∧ va_K (dC, dI) vwCl [] t ∧ va_D (va_A [(h0, .inr (16, [.ref h2, v0, v1, v2, v3, v4, v5, v6, v7, v8, v9, v10, v11, v12, v13, v14])), (h2, .inr (10, [.ref h3, v15, v16, v17, v18, v19, v20, v21, v22])), (h3, .inr (11, [v23, .int 0]))] sz) []) (va_A [(h0, .inr (16, [.ref h2, v0, v1, v2, v3, v4, v5, v6, v7, v8, v9, v10, v11, v12, v13, v14])), (h2, .inr (10, [.ref h3, v15, v16, v17, v18, v19, v20, v21, v22])), (h3, .inr (11, [v23, .int 0]))] sz)) 1 6 (va_A [(h0, .inr (16, [.ref h2, v0, v1, v2, v3, v4, v5, v6, v7, v8, v9, v10, v11, v12, v13, v14])), (h2, .inr (10, [.ref h3, v15, v16, v17, v18, v19, v20, v21, v22])), (h3, .inr (11, [v23, .int 0]))] sz) := by
  refine va_MetW (cc := cL_least) (maxL := 5) (ret := (some .int)) (hh := [(0, 11, 14, 30), (0, 11, 18, 19), (0, 11, 22, 21)]) (by decide) rfl ?_
  intro p e s m args below meth c s₁ B hml hv
  obtain ⟨rfl, hsz, hP, hK, hD0, hF⟩ := hv
  have hx := B.exec
  have hb := B.bytes
  have hr := B.returns
  have hts := atoms_spec (ws := wsL_least) B.pre
  have hown : s.vm.findClass RL = some m.cls := findClass_of_methodNamed B.named
  have hlocks := B.notSynchronized
  have htab : c.exceptionTable.toList = [⟨0, 11, 14, 30⟩, ⟨0, 11, 18, 19⟩, ⟨0, 11, 22, 21⟩] := vx_table B (hts _ List.mem_cons_self)
  subst hsz
  have hD := hD0.self (sz := s.heap.size)
  generalize hAe : va_A [(h0, .inr (16, [.ref h2, v0, v1, v2, v3, v4, v5, v6, v7, v8, v9, v10, v11, v12, v13, v14])), (h2, .inr (10, [.ref h3, v15, v16, v17, v18, v19, v20, v21, v22])), (h3, .inr (11, [v23, .int 0]))] s.heap.size = A at hD hF ⊢
  have hA : ∀ q : Nat, s.heap.size ≤ q → A q := fun q h => by rw [← hAe]; exact Or.inr h
  have hS : va_S A s.heap s.heap [] := va_S.rf
  have hP : va_P (dC, dI) vwCl [(h0, .inr (16, [.ref h2, v0, v1, v2, v3, v4, v5, v6, v7, v8, v9, v10, v11, v12, v13, v14])), (h2, .inr (10, [.ref h3, v15, v16, v17, v18, v19, v20, v21, v22])), (h3, .inr (11, [v23, .int 0]))] s.heap := hP
  have hl := lv_entry ([.ref h0, .int x0, .int x1, .ref h1]) (n := 5) (Nat.le_of_ble_eq_true rfl)
  rw [lg_entry_eq]
  generalize (lg_sl ([.ref h0, .int x0, .int x1, .ref h1]) ++ List.replicate (5 - (lg_sl ([.ref h0, .int x0, .int x1, .ref h1])).length) Slot.unset).toArray = ls at hl ⊢
  have hl : lv_has ls 5 [(0, .ref h0), (1, .int x0), (2, .int x1), (3, .ref h1)] := hl
  refine lv_aload_n hx hb dL_least_0 rfl (lv_at hl 3 rfl) ?_
  refine lv_aload_n hx hb dL_least_1 rfl (lv_at hl 0 rfl) ?_
  refine lv_iload_n hx hb dL_least_2 rfl (lv_at hl 1 rfl) ?_
  refine lv_iload_n hx hb dL_least_3 rfl (lv_at hl 2 rfl) ?_
  have hPc := hP.sub (ws' := [(h0, .inr (16, [.ref h2, v0, v1, v2, v3, v4, v5, v6, v7, v8, v9, v10, v11, v12, v13, v14])), (h2, .inr (10, [.ref h3, v15, v16, v17, v18, v19, v20, v21, v22])), (h3, .inr (11, [v23, .int 0]))]) [0, 1, 2] rfl
  have hDc := hD.sub (ws' := [(h0, .inr (16, [.ref h2, v0, v1, v2, v3, v4, v5, v6, v7, v8, v9, v10, v11, v12, v13, v14])), (h2, .inr (10, [.ref h3, v15, v16, v17, v18, v19, v20, v21, v22])), (h3, .inr (11, [v23, .int 0]))]) [0, 1, 2] (by decide) rfl
  have hKc := hK.sub (tys' := []) [] rfl
  have hFc := va_free (wc := [(h0, .inr (16, [.ref h2, v0, v1, v2, v3, v4, v5, v6, v7, v8, v9, v10, v11, v12, v13, v14])), (h2, .inr (10, [.ref h3, v15, v16, v17, v18, v19, v20, v21, v22])), (h3, .inr (11, [v23, .int 0]))]) hD hS hA [0, 1, 2] rfl
  refine vx_callv (vx_runV (As := [.int x0, .int x1]) (rest := [.ref h1]) ⟨hx, hb, hml, hown, hts⟩ (kX9_least l dC dI g s.heap.size h0 x0 x1 h2 h3 v0 v1 v2 v3 v4 v5 v6 v7 v8 v9 v10 v11 v12 v13 v14 v15 v16 v17 v18 v19 v20 v21 v22 v23  hlt) (cwV 2 hts gL_least_X9_least rfl rfl rfl (by decide +kernel) ⟨Nat.le_of_ble_eq_true rfl, Nat.le_of_ble_eq_true rfl⟩) ⟨fun a U gg mk q => by obtain ⟨q0, q1, qP, qK, qD, qF⟩ := q; exact ⟨q0, q1, qP, va_K.moved (u := U) (U := U.calling gg mk a) (Vm.Alike.refl U.vm) qK, qD, ns_same qF⟩, va_recv hK hP (ci := 16) (q0 := 0) rfl rfl, fun U hU hW => ⟨rfl, by rw [hU], by rw [hU]; exact hPc, va_K.moved hW.alike hKc, hDc.weaken (fun _ _ _ _ => trivial), ns_call hF hS hFc hU hW⟩⟩ rfl rfl hl.1 rfl (lv_room (Nat.le_of_ble_eq_true rfl)) dL_least_4 ⟨Nat.le_of_ble_eq_true rfl, Nat.le_of_ble_eq_true rfl⟩) hS (fun q _ h => hFc q h) hFc (fun q _ h => hFc q h) (fun E ce q9 u t H1 locs ht hvm hw hB hz1 hk1 hS hc1 hc2 hc3 => ?_) (fun _ _ _ _ _ _ hw _ _ _ _ => False.elim hw)
  obtain rfl : E = "java/lang/IndexOutOfBoundsException" := hB
  obtain ⟨hP, hD⟩ := va_join (wr := []) (w1 := []) hP hD [0, 1, 2] [] rfl rfl (by decide) (by decide) hk1 hFc (fun k q h => by simp at h) ⟨fun i j p q h => by simp at h, fun k q h => by simp at h⟩
  have hK := hK.sub (tys' := []) [] rfl
  generalize H1 = H at hP hS hc1 ⊢
  have hP : va_P (dC, dI) vwCl [] H := hP
  have hD : va_D A [] := hD
  have hK : va_K (dC, dI) vwCl [] s := hK
  refine vx_widen (k := 1) (n := 6) (Nat.le_of_ble_eq_true rfl) (Nat.le_of_ble_eq_true rfl) ?_
  refine vx_catch hown [] ⟨0, 11, 14, 30⟩ [⟨0, 11, 18, 19⟩, ⟨0, 11, 22, 21⟩] htab (fun z hz => by simp at hz) (by decide) (by decide) (hts (.classLink RL 30 "java/lang/IndexOutOfBoundsException") (by decide +kernel)) (va_Nw.use rfl (ns_f10 hF)) hc1 hc2 hc3 ?_
  refine W.eq (g2 := F0 m 14 ls [.ref q9]) rfl ?_
  refine lv_astore (lv' := [(4, .ref q9), (0, .ref h0), (1, .int x0), (2, .int x1), (3, .ref h1)]) hx hb dL_least_14 hl (by decide) rfl (fun ls hl => ?_)
  refine lv_iconst (v := 1) hx hb dL_least_16 (by decide) ?_
  have hP9 := hP.sub (ws' := []) [] rfl
  have hD9 := hD.sub (ws' := []) [] (by decide) rfl
  have hK9 := hK.sub (tys' := []) [] rfl
  refine W.widen (k := 1) (n := 6) (Nat.le_of_ble_eq_true rfl) (Nat.le_of_ble_eq_true rfl) ?_
  exact W.iret (v := 1) hx hb hr (fun t ht hW => ⟨⟨_, (), rfl, rfl, by rw [ht]; exact hP9, va_K.moved hW.alike hK9, hD9⟩, hS.F ht⟩) hS.2.2 dL_least_17
set_option maxHeartbeats 4000000 in
set_option maxRecDepth 100000 in
theorem kX16_least_ (l : Launch) (dC : Nat → ClassId) (dI : Nat → Nat → Nat) (g : Nat → Nat) (sz : Nat) (h0 : Nat) (x0 : Int32) (x1 : Int32) (h1 : Nat) (v0 : Value) (v1 : Value) (v2 : Value) (v3 : Value) (v4 : Value) (v5 : Value) (v6 : Value) (v7 : Value) (v8 : Value) (v9 : Value) : Met l yX16_least_ wsX16_least_ ({ frames := 2, cells := 0, slots := 0, locals := 44 }) (va_Pc [.ref h0, .int x0, .int x1] (fun U => U.heap.size = sz ∧ va_P (dC, dI) vwCl [(h0, .inr (23, [v0, .ref h1, v1, v2, v3, v4, v5, v6, v7])), (h1, .inr (6, [v8, v9, .int 0]))] U.heap ∧ va_K (dC, dI) vwCl [] U ∧ va_D (fun _ => True) [(h0, .inr (23, [v0, .ref h1, v1, v2, v3, v4, v5, v6, v7])), (h1, .inr (6, [v8, v9, .int 0]))] ∧ ns_F g (va_A [(h0, .inr (23, [v0, .ref h1, v1, v2, v3, v4, v5, v6, v7])), (h1, .inr (6, [v8, v9, .int 0]))] sz) U U.heap)) (va_Qi (fun (r : Int32) (_ : Unit) => r = 0) (fun _ t => va_P (dC, dI) vwCl [(h1, .inr (6, [v8, v9, .int 0])), (h0, .inr (23, [.int 1, .ref h1, v1, v2, v3, v4, v5, v6, v7]))] t.heap ∧ va_K (dC, dI) vwCl [] t ∧ va_D (va_A [(h0, .inr (23, [v0, .ref h1, v1, v2, v3, v4, v5, v6, v7])), (h1, .inr (6, [v8, v9, .int 0]))] sz) [(h1, .inr (6, [v8, v9, .int 0])), (h0, .inr (23, [.int 1, .ref h1, v1, v2, v3, v4, v5, v6, v7]))]) (va_A [(h0, .inr (23, [v0, .ref h1, v1, v2, v3, v4, v5, v6, v7])), (h1, .inr (6, [v8, v9, .int 0]))] sz)) 0 0 (va_A [(h0, .inr (23, [v0, .ref h1, v1, v2, v3, v4, v5, v6, v7])), (h1, .inr (6, [v8, v9, .int 0]))] sz) := by
  refine Met.ofW (cc := cX16_least_) (maxL := 3) (ret := (some .int)) (by decide) rfl ?_
  intro p e s m args below meth c s₁ B hml hv
  obtain ⟨rfl, hsz, hP, hK, hD0, hF⟩ := hv
  have hx := B.exec
  have hb := B.bytes
  have hr := B.returns
  have hts := atoms_spec (ws := wsX16_least_) B.pre
  have hown : s.vm.findClass RX16 = some m.cls := findClass_of_methodNamed B.named
  have hlocks := B.notSynchronized
  subst hsz
  have hD := hD0.self (sz := s.heap.size)
  generalize hAe : va_A [(h0, .inr (23, [v0, .ref h1, v1, v2, v3, v4, v5, v6, v7])), (h1, .inr (6, [v8, v9, .int 0]))] s.heap.size = A at hD hF ⊢
  have hA : ∀ q : Nat, s.heap.size ≤ q → A q := fun q h => by rw [← hAe]; exact Or.inr h
  have hS : va_S A s.heap s.heap [] := va_S.rf
  have hP : va_P (dC, dI) vwCl [(h0, .inr (23, [v0, .ref h1, v1, v2, v3, v4, v5, v6, v7])), (h1, .inr (6, [v8, v9, .int 0]))] s.heap := hP
  have hl := lv_entry ([.ref h0, .int x0, .int x1]) (n := 3) (Nat.le_of_ble_eq_true rfl)
  rw [lg_entry_eq]
  generalize (lg_sl ([.ref h0, .int x0, .int x1]) ++ List.replicate (3 - (lg_sl ([.ref h0, .int x0, .int x1])).length) Slot.unset).toArray = ls at hl ⊢
  have hl : lv_has ls 3 [(0, .ref h0), (1, .int x0), (2, .int x1)] := hl
  refine lv_aload_n hx hb dX16_least__0 rfl (lv_at hl 0 rfl) ?_
  refine lv_aload_n hx hb dX16_least__1 rfl (lv_at hl 0 rfl) ?_
  refine lv_iload_n hx hb dX16_least__2 rfl (lv_at hl 1 rfl) ?_
  have hPc := hP.sub (ws' := [(h0, .inr (23, [v0, .ref h1, v1, v2, v3, v4, v5, v6, v7])), (h1, .inr (6, [v8, v9, .int 0]))]) [0, 1] rfl
  have hDc := hD.sub (ws' := [(h0, .inr (23, [v0, .ref h1, v1, v2, v3, v4, v5, v6, v7])), (h1, .inr (6, [v8, v9, .int 0]))]) [0, 1] (by decide) rfl
  have hKc := hK.sub (tys' := []) [] rfl
  have hFc := va_free (wc := [(h0, .inr (23, [v0, .ref h1, v1, v2, v3, v4, v5, v6, v7])), (h1, .inr (6, [v8, v9, .int 0]))]) hD hS hA [0, 1] rfl
  refine va_calli (va_runV (As := [.int x0]) (rest := [.ref h0]) ⟨hx, hb, hml, hown, hts⟩ (kX16_isNoNode l dC dI g s.heap.size h0 x0 h1 v0 v1 v2 v3 v4 v5 v6 v7 v8 v9 ) (cwV 1 hts gX16_least__X16_isNoNode rfl rfl rfl (by decide +kernel) ⟨Nat.le_of_ble_eq_true rfl, Nat.le_of_ble_eq_true rfl⟩) ⟨fun a U gg mk q => by obtain ⟨q0, q1, qP, qK, qD, qF⟩ := q; exact ⟨q0, q1, qP, va_K.moved (u := U) (U := U.calling gg mk a) (Vm.Alike.refl U.vm) qK, qD, ns_same qF⟩, va_recv hK hP (ci := 23) (q0 := 0) rfl rfl, fun U hU hW => ⟨rfl, by rw [hU], by rw [hU]; exact hPc, va_K.moved hW.alike hKc, hDc.weaken (fun _ _ _ _ => trivial), ns_call hF hS hFc hU hW⟩⟩ rfl rfl hl.1 rfl (lv_room (Nat.le_of_ble_eq_true rfl)) dX16_least__3 ⟨Nat.le_of_ble_eq_true rfl, Nat.le_of_ble_eq_true rfl⟩) hS (fun q _ h => hFc q h) hFc (fun r9 u t H1 locs ht hvm hw hB hz1 hk1 hS => ?_)
  obtain rfl := hw
  obtain ⟨hP1, hK1, hD1⟩ := hB
  rw [ht] at hP1
  have hK1 := va_K.moved hvm.symm hK1
  obtain ⟨hP, hD⟩ := va_join (wr := []) (w1 := [(h0, .inr (23, [v0, .ref h1, v1, v2, v3, v4, v5, v6, v7])), (h1, .inr (6, [v8, v9, .int 0]))]) hP hD [0, 1] [] rfl rfl (by decide) (by decide) hk1 hFc hP1 hD1
  have hK := (hK.sub (tys' := []) [] rfl).app hK1
  generalize H1 = H at hP hS ⊢
  have hP : va_P (dC, dI) vwCl [(h0, .inr (23, [v0, .ref h1, v1, v2, v3, v4, v5, v6, v7])), (h1, .inr (6, [v8, v9, .int 0]))] H := hP
  have hD : va_D A [(h0, .inr (23, [v0, .ref h1, v1, v2, v3, v4, v5, v6, v7])), (h1, .inr (6, [v8, v9, .int 0]))] := hD
  have hK : va_K (dC, dI) vwCl [] s := hK
  refine W.widen (k := 0) (n := 0) (Nat.le_of_ble_eq_true rfl) (Nat.le_of_ble_eq_true rfl) ?_
  refine lv_iconst (v := 1) hx hb dX16_least__6 (by decide) ?_
  have hPc := hP.sub (ws' := [(h0, .inr (23, [v0, .ref h1, v1, v2, v3, v4, v5, v6, v7]))]) [0] rfl
  have hDc := hD.sub (ws' := [(h0, .inr (23, [v0, .ref h1, v1, v2, v3, v4, v5, v6, v7]))]) [0] (by decide) rfl
  have hKc := hK.sub (tys' := []) [] rfl
  have hFc := va_free (wc := [(h0, .inr (23, [v0, .ref h1, v1, v2, v3, v4, v5, v6, v7]))]) hD hS hA [0] rfl
  refine va_calli (va_runV (As := [.int 1, .int 1]) (rest := []) ⟨hx, hb, hml, hown, hts⟩ (kX16_start l dC dI g H.size h0 v0 (.ref h1) v1 v2 v3 v4 v5 v6 v7 ) (cwV 2 hts gX16_least__X16_start rfl rfl rfl (by decide +kernel) ⟨Nat.le_of_ble_eq_true rfl, Nat.le_of_ble_eq_true rfl⟩) ⟨fun a U gg mk q => by obtain ⟨q0, q1, qP, qK, qD, qF⟩ := q; exact ⟨q0, q1, qP, va_K.moved (u := U) (U := U.calling gg mk a) (Vm.Alike.refl U.vm) qK, qD, ns_same qF⟩, va_recv hK hP (ci := 23) (q0 := 0) rfl rfl, fun U hU hW => ⟨rfl, by rw [hU], by rw [hU]; exact hPc, va_K.moved hW.alike hKc, hDc.weaken (fun _ _ _ _ => trivial), ns_call hF hS hFc hU hW⟩⟩ rfl rfl hl.1 rfl (lv_room (Nat.le_of_ble_eq_true rfl)) dX16_least__7 ⟨Nat.le_of_ble_eq_true rfl, Nat.le_of_ble_eq_true rfl⟩) hS (fun q _ h => hFc q h) hFc (fun r9 u t H1 locs ht hvm hw hB hz1 hk1 hS => ?_)
  obtain rfl := hw
  obtain ⟨hP1, hK1, hD1⟩ := hB
  rw [ht] at hP1
  have hK1 := va_K.moved hvm.symm hK1
  obtain ⟨hP, hD⟩ := va_join (wr := [(h1, .inr (6, [v8, v9, .int 0]))]) (w1 := [(h0, .inr (23, [.int 1, .ref h1, v1, v2, v3, v4, v5, v6, v7]))]) hP hD [0] [1] rfl rfl (by decide) (by decide) hk1 hFc hP1 hD1
  have hK := (hK.sub (tys' := []) [] rfl).app hK1
  generalize H1 = H at hP hS ⊢
  have hP : va_P (dC, dI) vwCl [(h1, .inr (6, [v8, v9, .int 0])), (h0, .inr (23, [.int 1, .ref h1, v1, v2, v3, v4, v5, v6, v7]))] H := hP
  have hD : va_D A [(h1, .inr (6, [v8, v9, .int 0])), (h0, .inr (23, [.int 1, .ref h1, v1, v2, v3, v4, v5, v6, v7]))] := hD
  have hK : va_K (dC, dI) vwCl [] s := hK
  refine W.widen (k := 0) (n := 0) (Nat.le_of_ble_eq_true rfl) (Nat.le_of_ble_eq_true rfl) ?_
  refine lv_if_ne (tgt := 57) hx hb dX16_least__10 (by decide) (fun c1 => ?_) (fun c1 => absurd c1 (by decide))
  refine lv_iconst (v := 0) hx hb dX16_least__57 (by decide) ?_
  refine lv_goto (tgt := 77) hx hb dX16_least__58 (by decide) ?_
  have hP9 := hP.sub (ws' := [(h1, .inr (6, [v8, v9, .int 0])), (h0, .inr (23, [.int 1, .ref h1, v1, v2, v3, v4, v5, v6, v7]))]) [0, 1] rfl
  have hD9 := hD.sub (ws' := [(h1, .inr (6, [v8, v9, .int 0])), (h0, .inr (23, [.int 1, .ref h1, v1, v2, v3, v4, v5, v6, v7]))]) [0, 1] (by decide) rfl
  have hK9 := hK.sub (tys' := []) [] rfl
  refine W.widen (k := 0) (n := 0) (Nat.le_of_ble_eq_true rfl) (Nat.le_of_ble_eq_true rfl) ?_
  exact W.iret (v := 0) hx hb hr (fun t ht hW => ⟨⟨_, (), rfl, rfl, by rw [ht]; exact hP9, va_K.moved hW.alike hK9, hD9⟩, hS.F ht⟩) hS.2.2 dX16_least__77
set_option maxHeartbeats 4000000 in
set_option maxRecDepth 100000 in
theorem kX9_leastLine (l : Launch) (dC : Nat → ClassId) (dI : Nat → Nat → Nat) (g : Nat → Nat) (sz : Nat) (h0 : Nat) (x0 : Int32) (x1 : Int32) (h1 : Nat) (h2 : Nat) (v0 : Value) (v1 : Value) (v2 : Value) (v3 : Value) (v4 : Value) (v5 : Value) (v6 : Value) (v7 : Value) (v8 : Value) (v9 : Value) (v10 : Value) (v11 : Value) (v12 : Value) (v13 : Value) (v14 : Value) (v15 : Value) (v16 : Value) (v17 : Value) (v18 : Value) (v19 : Value) (v20 : Value) (v21 : Value) (v22 : Value) (v23 : Value) (hlt : l.stackTraces = false) : vx_Met l yX9_leastLine wsX9_leastLine ({ frames := 7, cells := 1, slots := 6, locals := 103 }) (va_Pc [.ref h0, .int x0, .int x1] (fun U => U.heap.size = sz ∧ va_P (dC, dI) vwCl [(h0, .inr (16, [.ref h1, v0, v1, v2, v3, v4, v5, v6, v7, v8, v9, v10, v11, v12, v13, v14])), (h1, .inr (10, [.ref h2, v15, v16, v17, v18, v19, v20, v21, v22])), (h2, .inr (11, [v23, .int 0]))] U.heap ∧ va_K (dC, dI) vwCl [] U ∧ va_D (fun _ => True) [(h0, .inr (16, [.ref h1, v0, v1, v2, v3, v4, v5, v6, v7, v8, v9, v10, v11, v12, v13, v14])), (h1, .inr (10, [.ref h2, v15, v16, v17, v18, v19, v20, v21, v22])), (h2, .inr (11, [v23, .int 0]))] ∧ ns_F g (va_A [(h0, .inr (16, [.ref h1, v0, v1, v2, v3, v4, v5, v6, v7, v8, v9, v10, v11, v12, v13, v14])), (h1, .inr (10, [.ref h2, v15, v16, v17, v18, v19, v20, v21, v22])), (h2, .inr (11, [v23, .int 0]))] sz) U U.heap)) (va_Qv (fun _ : Unit => False) (fun _ _ => True) (va_A [(h0, .inr (16, [.ref h1, v0, v1, v2, v3, v4, v5, v6, v7, v8, v9, v10, v11, v12, v13, v14])), (h1, .inr (10, [.ref h2, v15, v16, v17, v18, v19, v20, v21, v22])), (h2, .inr (11, [v23, .int 0]))] sz)) (vx_X (fun _ : Unit => True) (fun E _ _ => E = "java/lang/IndexOutOfBoundsException") (va_A [(h0, .inr (16, [.ref h1, v0, v1, v2, v3, v4, v5, v6, v7, v8, v9, v10, v11, v12, v13, v14])), (h1, .inr (10, [.ref h2, v15, v16, v17, v18, v19, v20, v21, v22])), (h2, .inr (11, [v23, .int 0]))] sz)) 1 6 (va_A [(h0, .inr (16, [.ref h1, v0, v1, v2, v3, v4, v5, v6, v7, v8, v9, v10, v11, v12, v13, v14])), (h1, .inr (10, [.ref h2, v15, v16, v17, v18, v19, v20, v21, v22])), (h2, .inr (11, [v23, .int 0]))] sz) := by
  refine vx_ofW (cc := cX9_leastLine) (maxL := 3) (ret := (some (.object "java/lang/String"))) (by decide) rfl ?_
  intro p e s m args below meth c s₁ B hml hnox hv
  obtain ⟨rfl, hsz, hP, hK, hD0, hF⟩ := hv
  have hx := B.exec
  have hb := B.bytes
  have hr := B.returns
  have hts := atoms_spec (ws := wsX9_leastLine) B.pre
  have hown : s.vm.findClass RX9 = some m.cls := findClass_of_methodNamed B.named
  have hlocks := B.notSynchronized
  subst hsz
  have hD := hD0.self (sz := s.heap.size)
  generalize hAe : va_A [(h0, .inr (16, [.ref h1, v0, v1, v2, v3, v4, v5, v6, v7, v8, v9, v10, v11, v12, v13, v14])), (h1, .inr (10, [.ref h2, v15, v16, v17, v18, v19, v20, v21, v22])), (h2, .inr (11, [v23, .int 0]))] s.heap.size = A at hD hF ⊢
  have hA : ∀ q : Nat, s.heap.size ≤ q → A q := fun q h => by rw [← hAe]; exact Or.inr h
  have hS : va_S A s.heap s.heap [] := va_S.rf
  have hP : va_P (dC, dI) vwCl [(h0, .inr (16, [.ref h1, v0, v1, v2, v3, v4, v5, v6, v7, v8, v9, v10, v11, v12, v13, v14])), (h1, .inr (10, [.ref h2, v15, v16, v17, v18, v19, v20, v21, v22])), (h2, .inr (11, [v23, .int 0]))] s.heap := hP
  have hl := lv_entry ([.ref h0, .int x0, .int x1]) (n := 3) (Nat.le_of_ble_eq_true rfl)
  rw [lg_entry_eq]
  generalize (lg_sl ([.ref h0, .int x0, .int x1]) ++ List.replicate (3 - (lg_sl ([.ref h0, .int x0, .int x1])).length) Slot.unset).toArray = ls at hl ⊢
  have hl : lv_has ls 3 [(0, .ref h0), (1, .int x0), (2, .int x1)] := hl
  refine lv_aload_n hx hb dX9_leastLine_0 rfl (lv_at hl 0 rfl) ?_
  refine lv_iload_n hx hb dX9_leastLine_1 rfl (lv_at hl 1 rfl) ?_
  have hPc := hP.sub (ws' := [(h0, .inr (16, [.ref h1, v0, v1, v2, v3, v4, v5, v6, v7, v8, v9, v10, v11, v12, v13, v14])), (h1, .inr (10, [.ref h2, v15, v16, v17, v18, v19, v20, v21, v22])), (h2, .inr (11, [v23, .int 0]))]) [0, 1, 2] rfl
  have hDc := hD.sub (ws' := [(h0, .inr (16, [.ref h1, v0, v1, v2, v3, v4, v5, v6, v7, v8, v9, v10, v11, v12, v13, v14])), (h1, .inr (10, [.ref h2, v15, v16, v17, v18, v19, v20, v21, v22])), (h2, .inr (11, [v23, .int 0]))]) [0, 1, 2] (by decide) rfl
  have hKc := hK.sub (tys' := []) [] rfl
  have hFc := va_free (wc := [(h0, .inr (16, [.ref h1, v0, v1, v2, v3, v4, v5, v6, v7, v8, v9, v10, v11, v12, v13, v14])), (h1, .inr (10, [.ref h2, v15, v16, v17, v18, v19, v20, v21, v22])), (h2, .inr (11, [v23, .int 0]))]) hD hS hA [0, 1, 2] rfl
  refine vx_callv (vx_runV (As := [.int x0]) (rest := []) ⟨hx, hb, hml, hown, hts⟩ (kX9_needNode l dC dI g s.heap.size h0 x0 h1 h2 v0 v1 v2 v3 v4 v5 v6 v7 v8 v9 v10 v11 v12 v13 v14 v15 v16 v17 v18 v19 v20 v21 v22 v23  hlt) (cwV 1 hts gX9_leastLine_X9_needNode rfl rfl rfl (by decide +kernel) ⟨Nat.le_of_ble_eq_true rfl, Nat.le_of_ble_eq_true rfl⟩) ⟨fun a U gg mk q => by obtain ⟨q0, q1, qP, qK, qD, qF⟩ := q; exact ⟨q0, q1, qP, va_K.moved (u := U) (U := U.calling gg mk a) (Vm.Alike.refl U.vm) qK, qD, ns_same qF⟩, va_recv hK hP (ci := 16) (q0 := 0) rfl rfl, fun U hU hW => ⟨rfl, by rw [hU], by rw [hU]; exact hPc, va_K.moved hW.alike hKc, hDc.weaken (fun _ _ _ _ => trivial), ns_call hF hS hFc hU hW⟩⟩ rfl rfl hl.1 rfl (lv_room (Nat.le_of_ble_eq_true rfl)) dX9_leastLine_2 ⟨Nat.le_of_ble_eq_true rfl, Nat.le_of_ble_eq_true rfl⟩) hS (fun q _ h => hFc q h) hFc (fun q _ h => hFc q h) (fun E ce q9 u t H1 locs ht hvm hw hB hz1 hk1 hS hc1 hc2 hc3 => ?_) (fun _ _ _ _ _ _ hw _ _ _ _ => False.elim hw)
  obtain rfl : E = "java/lang/IndexOutOfBoundsException" := hB
  exact vx_out (fun x hx => (hnox x hx).elim) hlocks hc1 hc2 hc3 (fun t9 ht9 hal => ⟨(), trivial, rfl, hS.F ht9⟩) hS.2.2 (Nat.le_of_ble_eq_true rfl) (Nat.le_of_ble_eq_true rfl)
set_option maxHeartbeats 4000000 in
set_option maxRecDepth 100000 in
theorem kL_leastLine (l : Launch) (dC : Nat → ClassId) (dI : Nat → Nat → Nat) (g : Nat → Nat) (sz : Nat) (h0 : Nat) (x0 : Int32) (x1 : Int32) (h1 : Nat) (h2 : Nat) (h3 : Nat) (v0 : Value) (v1 : Value) (v2 : Value) (v3 : Value) (v4 : Value) (v5 : Value) (v6 : Value) (v7 : Value) (v8 : Value) (v9 : Value) (v10 : Value) (v11 : Value) (v12 : Value) (v13 : Value) (v14 : Value) (v15 : Value) (v16 : Value) (v17 : Value) (v18 : Value) (v19 : Value) (v20 : Value) (v21 : Value) (v22 : Value) (v23 : Value) (hlt : l.stackTraces = false) : Met l yL_leastLine wsL_leastLine ({ frames := 8, cells := 1, slots := 6, locals := 125 }) (va_Pc [.ref h0, .int x0, .int x1, .ref h1] (fun U => U.heap.size = sz ∧ va_P (dC, dI) vwCl [(h0, .inr (16, [.ref h2, v0, v1, v2, v3, v4, v5, v6, v7, v8, v9, v10, v11, v12, v13, v14])), (h2, .inr (10, [.ref h3, v15, v16, v17, v18, v19, v20, v21, v22])), (h3, .inr (11, [v23, .int 0]))] U.heap ∧ va_K (dC, dI) vwCl [] U ∧ va_D (fun _ => True) [(h0, .inr (16, [.ref h2, v0, v1, v2, v3, v4, v5, v6, v7, v8, v9, v10, v11, v12, v13, v14])), (h2, .inr (10, [.ref h3, v15, v16, v17, v18, v19, v20, v21, v22])), (h3, .inr (11, [v23, .int 0]))] ∧ ns_F g (va_A [(h0, .inr (16, [.ref h2, v0, v1, v2, v3, v4, v5, v6, v7, v8, v9, v10, v11, v12, v13, v14])), (h2, .inr (10, [.ref h3, v15, v16, v17, v18, v19, v20, v21, v22])), (h3, .inr (11, [v23, .int 0]))] sz) U U.heap)) (va_Qi (fun (r : Int32) (_ : Unit) => r = 1) (fun _ t => va_P (dC, dI) vwCl [] t.heap ∧ va_K (dC, dI) vwCl [] t ∧ va_D (va_A [(h0, .inr (16, [.ref h2, v0, v1, v2, v3, v4, v5, v6, v7, v8, v9, v10, v11, v12, v13, v14])), (h2, .inr (10, [.ref h3, v15, v16, v17, v18, v19, v20, v21, v22])), (h3, .inr (11, [v23, .int 0]))] sz) []) (va_A [(h0, .inr (16, [.ref h2, v0, v1, v2, v3, v4, v5, v6, v7, v8, v9, v10, v11, v12, v13, v14])), (h2, .inr (10, [.ref h3, v15, v16, v17, v18, v19, v20, v21, v22])), (h3, .inr (11, [v23, .int 0]))] sz)) 1 6 (va_A [(h0, .inr (16, [.ref h2, v0, v1, v2, v3, v4, v5, v6, v7, v8, v9, v10, v11, v12, v13, v14])), (h2, .inr (10, [.ref h3, v15, v16, v17, v18, v19, v20, v21, v22])), (h3, .inr (11, [v23, .int 0]))] sz) := by
  refine va_MetW (cc := cL_leastLine) (maxL := 5) (ret := (some .int)) (hh := [(0, 10, 13, 30), (0, 10, 17, 19), (0, 10, 21, 21)]) (by decide) rfl ?_
  intro p e s m args below meth c s₁ B hml hv
  obtain ⟨rfl, hsz, hP, hK, hD0, hF⟩ := hv
  have hx := B.exec
  have hb := B.bytes
  have hr := B.returns
  have hts := atoms_spec (ws := wsL_leastLine) B.pre
  have hown : s.vm.findClass RL = some m.cls := findClass_of_methodNamed B.named
  have hlocks := B.notSynchronized
  have htab : c.exceptionTable.toList = [⟨0, 10, 13, 30⟩, ⟨0, 10, 17, 19⟩, ⟨0, 10, 21, 21⟩] := vx_table B (hts _ List.mem_cons_self)
  subst hsz
  have hD := hD0.self (sz := s.heap.size)
  generalize hAe : va_A [(h0, .inr (16, [.ref h2, v0, v1, v2, v3, v4, v5, v6, v7, v8, v9, v10, v11, v12, v13, v14])), (h2, .inr (10, [.ref h3, v15, v16, v17, v18, v19, v20, v21, v22])), (h3, .inr (11, [v23, .int 0]))] s.heap.size = A at hD hF ⊢
  have hA : ∀ q : Nat, s.heap.size ≤ q → A q := fun q h => by rw [← hAe]; exact Or.inr h
  have hS : va_S A s.heap s.heap [] := va_S.rf
  have hP : va_P (dC, dI) vwCl [(h0, .inr (16, [.ref h2, v0, v1, v2, v3, v4, v5, v6, v7, v8, v9, v10, v11, v12, v13, v14])), (h2, .inr (10, [.ref h3, v15, v16, v17, v18, v19, v20, v21, v22])), (h3, .inr (11, [v23, .int 0]))] s.heap := hP
  have hl := lv_entry ([.ref h0, .int x0, .int x1, .ref h1]) (n := 5) (Nat.le_of_ble_eq_true rfl)
  rw [lg_entry_eq]
  generalize (lg_sl ([.ref h0, .int x0, .int x1, .ref h1]) ++ List.replicate (5 - (lg_sl ([.ref h0, .int x0, .int x1, .ref h1])).length) Slot.unset).toArray = ls at hl ⊢
  have hl : lv_has ls 5 [(0, .ref h0), (1, .int x0), (2, .int x1), (3, .ref h1)] := hl
  refine lv_aload_n hx hb dL_leastLine_0 rfl (lv_at hl 3 rfl) ?_
  refine lv_aload_n hx hb dL_leastLine_1 rfl (lv_at hl 0 rfl) ?_
  refine lv_iload_n hx hb dL_leastLine_2 rfl (lv_at hl 1 rfl) ?_
  refine lv_iload_n hx hb dL_leastLine_3 rfl (lv_at hl 2 rfl) ?_
  have hPc := hP.sub (ws' := [(h0, .inr (16, [.ref h2, v0, v1, v2, v3, v4, v5, v6, v7, v8, v9, v10, v11, v12, v13, v14])), (h2, .inr (10, [.ref h3, v15, v16, v17, v18, v19, v20, v21, v22])), (h3, .inr (11, [v23, .int 0]))]) [0, 1, 2] rfl
  have hDc := hD.sub (ws' := [(h0, .inr (16, [.ref h2, v0, v1, v2, v3, v4, v5, v6, v7, v8, v9, v10, v11, v12, v13, v14])), (h2, .inr (10, [.ref h3, v15, v16, v17, v18, v19, v20, v21, v22])), (h3, .inr (11, [v23, .int 0]))]) [0, 1, 2] (by decide) rfl
  have hKc := hK.sub (tys' := []) [] rfl
  have hFc := va_free (wc := [(h0, .inr (16, [.ref h2, v0, v1, v2, v3, v4, v5, v6, v7, v8, v9, v10, v11, v12, v13, v14])), (h2, .inr (10, [.ref h3, v15, v16, v17, v18, v19, v20, v21, v22])), (h3, .inr (11, [v23, .int 0]))]) hD hS hA [0, 1, 2] rfl
  refine vx_callv (vx_runV (As := [.int x0, .int x1]) (rest := [.ref h1]) ⟨hx, hb, hml, hown, hts⟩ (kX9_leastLine l dC dI g s.heap.size h0 x0 x1 h2 h3 v0 v1 v2 v3 v4 v5 v6 v7 v8 v9 v10 v11 v12 v13 v14 v15 v16 v17 v18 v19 v20 v21 v22 v23  hlt) (cwV 2 hts gL_leastLine_X9_leastLine rfl rfl rfl (by decide +kernel) ⟨Nat.le_of_ble_eq_true rfl, Nat.le_of_ble_eq_true rfl⟩) ⟨fun a U gg mk q => by obtain ⟨q0, q1, qP, qK, qD, qF⟩ := q; exact ⟨q0, q1, qP, va_K.moved (u := U) (U := U.calling gg mk a) (Vm.Alike.refl U.vm) qK, qD, ns_same qF⟩, va_recv hK hP (ci := 16) (q0 := 0) rfl rfl, fun U hU hW => ⟨rfl, by rw [hU], by rw [hU]; exact hPc, va_K.moved hW.alike hKc, hDc.weaken (fun _ _ _ _ => trivial), ns_call hF hS hFc hU hW⟩⟩ rfl rfl hl.1 rfl (lv_room (Nat.le_of_ble_eq_true rfl)) dL_leastLine_4 ⟨Nat.le_of_ble_eq_true rfl, Nat.le_of_ble_eq_true rfl⟩) hS (fun q _ h => hFc q h) hFc (fun q _ h => hFc q h) (fun E ce q9 u t H1 locs ht hvm hw hB hz1 hk1 hS hc1 hc2 hc3 => ?_) (fun _ _ _ _ _ _ hw _ _ _ _ => False.elim hw)
  obtain rfl : E = "java/lang/IndexOutOfBoundsException" := hB
  obtain ⟨hP, hD⟩ := va_join (wr := []) (w1 := []) hP hD [0, 1, 2] [] rfl rfl (by decide) (by decide) hk1 hFc (fun k q h => by simp at h) ⟨fun i j p q h => by simp at h, fun k q h => by simp at h⟩
  have hK := hK.sub (tys' := []) [] rfl
  generalize H1 = H at hP hS hc1 ⊢
  have hP : va_P (dC, dI) vwCl [] H := hP
  have hD : va_D A [] := hD
  have hK : va_K (dC, dI) vwCl [] s := hK
  refine vx_widen (k := 1) (n := 6) (Nat.le_of_ble_eq_true rfl) (Nat.le_of_ble_eq_true rfl) ?_
  refine vx_catch hown [] ⟨0, 10, 13, 30⟩ [⟨0, 10, 17, 19⟩, ⟨0, 10, 21, 21⟩] htab (fun z hz => by simp at hz) (by decide) (by decide) (hts (.classLink RL 30 "java/lang/IndexOutOfBoundsException") (by decide +kernel)) (va_Nw.use rfl (ns_f10 hF)) hc1 hc2 hc3 ?_
  refine W.eq (g2 := F0 m 13 ls [.ref q9]) rfl ?_
  refine lv_astore (lv' := [(4, .ref q9), (0, .ref h0), (1, .int x0), (2, .int x1), (3, .ref h1)]) hx hb dL_leastLine_13 hl (by decide) rfl (fun ls hl => ?_)
  refine lv_iconst (v := 1) hx hb dL_leastLine_15 (by decide) ?_
  have hP9 := hP.sub (ws' := []) [] rfl
  have hD9 := hD.sub (ws' := []) [] (by decide) rfl
  have hK9 := hK.sub (tys' := []) [] rfl
  refine W.widen (k := 1) (n := 6) (Nat.le_of_ble_eq_true rfl) (Nat.le_of_ble_eq_true rfl) ?_
  exact W.iret (v := 1) hx hb hr (fun t ht hW => ⟨⟨_, (), rfl, rfl, by rw [ht]; exact hP9, va_K.moved hW.alike hK9, hD9⟩, hS.F ht⟩) hS.2.2 dL_leastLine_16
set_option maxHeartbeats 4000000 in
set_option maxRecDepth 100000 in
theorem kX16_leastLine (l : Launch) (dC : Nat → ClassId) (dI : Nat → Nat → Nat) (g : Nat → Nat) (sz : Nat) (h0 : Nat) (x0 : Int32) (x1 : Int32) (h1 : Nat) (v0 : Value) (v1 : Value) (v2 : Value) (v3 : Value) (v4 : Value) (v5 : Value) (v6 : Value) (v7 : Value) (v8 : Value) (v9 : Value) : Met l yX16_leastLine wsX16_leastLine ({ frames := 2, cells := 0, slots := 0, locals := 44 }) (va_Pc [.ref h0, .int x0, .int x1] (fun U => U.heap.size = sz ∧ va_P (dC, dI) vwCl [(h0, .inr (23, [v0, .ref h1, v1, v2, v3, v4, v5, v6, v7])), (h1, .inr (6, [v8, v9, .int 0]))] U.heap ∧ va_K (dC, dI) vwCl [] U ∧ va_D (fun _ => True) [(h0, .inr (23, [v0, .ref h1, v1, v2, v3, v4, v5, v6, v7])), (h1, .inr (6, [v8, v9, .int 0]))] ∧ ns_F g (va_A [(h0, .inr (23, [v0, .ref h1, v1, v2, v3, v4, v5, v6, v7])), (h1, .inr (6, [v8, v9, .int 0]))] sz) U U.heap)) (va_Qr (fun _ : Unit => True) (fun _ r t => r = (g 34) ∧ va_P (dC, dI) vwCl [(h1, .inr (6, [v8, v9, .int 0])), (h0, .inr (23, [.int 1, .ref h1, v1, v2, v3, v4, v5, v6, v7]))] t.heap ∧ va_K (dC, dI) vwCl [] t ∧ va_D (va_A [(h0, .inr (23, [v0, .ref h1, v1, v2, v3, v4, v5, v6, v7])), (h1, .inr (6, [v8, v9, .int 0]))] sz) [(h1, .inr (6, [v8, v9, .int 0])), (h0, .inr (23, [.int 1, .ref h1, v1, v2, v3, v4, v5, v6, v7]))]) (va_A [(h0, .inr (23, [v0, .ref h1, v1, v2, v3, v4, v5, v6, v7])), (h1, .inr (6, [v8, v9, .int 0]))] sz)) 0 0 (va_A [(h0, .inr (23, [v0, .ref h1, v1, v2, v3, v4, v5, v6, v7])), (h1, .inr (6, [v8, v9, .int 0]))] sz) := by
  refine Met.ofW (cc := cX16_leastLine) (maxL := 3) (ret := (some (.object "java/lang/String"))) (by decide) rfl ?_
  intro p e s m args below meth c s₁ B hml hv
  obtain ⟨rfl, hsz, hP, hK, hD0, hF⟩ := hv
  have hx := B.exec
  have hb := B.bytes
  have hr := B.returns
  have hts := atoms_spec (ws := wsX16_leastLine) B.pre
  have hown : s.vm.findClass RX16 = some m.cls := findClass_of_methodNamed B.named
  have hlocks := B.notSynchronized
  subst hsz
  have hD := hD0.self (sz := s.heap.size)
  generalize hAe : va_A [(h0, .inr (23, [v0, .ref h1, v1, v2, v3, v4, v5, v6, v7])), (h1, .inr (6, [v8, v9, .int 0]))] s.heap.size = A at hD hF ⊢
  have hA : ∀ q : Nat, s.heap.size ≤ q → A q := fun q h => by rw [← hAe]; exact Or.inr h
  have hS : va_S A s.heap s.heap [] := va_S.rf
  have hP : va_P (dC, dI) vwCl [(h0, .inr (23, [v0, .ref h1, v1, v2, v3, v4, v5, v6, v7])), (h1, .inr (6, [v8, v9, .int 0]))] s.heap := hP
  have hl := lv_entry ([.ref h0, .int x0, .int x1]) (n := 3) (Nat.le_of_ble_eq_true rfl)
  rw [lg_entry_eq]
  generalize (lg_sl ([.ref h0, .int x0, .int x1]) ++ List.replicate (3 - (lg_sl ([.ref h0, .int x0, .int x1])).length) Slot.unset).toArray = ls at hl ⊢
  have hl : lv_has ls 3 [(0, .ref h0), (1, .int x0), (2, .int x1)] := hl
  refine lv_aload_n hx hb dX16_leastLine_0 rfl (lv_at hl 0 rfl) ?_
  refine lv_aload_n hx hb dX16_leastLine_1 rfl (lv_at hl 0 rfl) ?_
  refine lv_iload_n hx hb dX16_leastLine_2 rfl (lv_at hl 1 rfl) ?_
  have hPc := hP.sub (ws' := [(h0, .inr (23, [v0, .ref h1, v1, v2, v3, v4, v5, v6, v7])), (h1, .inr (6, [v8, v9, .int 0]))]) [0, 1] rfl
  have hDc := hD.sub (ws' := [(h0, .inr (23, [v0, .ref h1, v1, v2, v3, v4, v5, v6, v7])), (h1, .inr (6, [v8, v9, .int 0]))]) [0, 1] (by decide) rfl
  have hKc := hK.sub (tys' := []) [] rfl
  have hFc := va_free (wc := [(h0, .inr (23, [v0, .ref h1, v1, v2, v3, v4, v5, v6, v7])), (h1, .inr (6, [v8, v9, .int 0]))]) hD hS hA [0, 1] rfl
  refine va_calli (va_runV (As := [.int x0]) (rest := [.ref h0]) ⟨hx, hb, hml, hown, hts⟩ (kX16_isNoNode l dC dI g s.heap.size h0 x0 h1 v0 v1 v2 v3 v4 v5 v6 v7 v8 v9 ) (cwV 1 hts gX16_leastLine_X16_isNoNode rfl rfl rfl (by decide +kernel) ⟨Nat.le_of_ble_eq_true rfl, Nat.le_of_ble_eq_true rfl⟩) ⟨fun a U gg mk q => by obtain ⟨q0, q1, qP, qK, qD, qF⟩ := q; exact ⟨q0, q1, qP, va_K.moved (u := U) (U := U.calling gg mk a) (Vm.Alike.refl U.vm) qK, qD, ns_same qF⟩, va_recv hK hP (ci := 23) (q0 := 0) rfl rfl, fun U hU hW => ⟨rfl, by rw [hU], by rw [hU]; exact hPc, va_K.moved hW.alike hKc, hDc.weaken (fun _ _ _ _ => trivial), ns_call hF hS hFc hU hW⟩⟩ rfl rfl hl.1 rfl (lv_room (Nat.le_of_ble_eq_true rfl)) dX16_leastLine_3 ⟨Nat.le_of_ble_eq_true rfl, Nat.le_of_ble_eq_true rfl⟩) hS (fun q _ h => hFc q h) hFc (fun r9 u t H1 locs ht hvm hw hB hz1 hk1 hS => ?_)
  obtain rfl := hw
  obtain ⟨hP1, hK1, hD1⟩ := hB
  rw [ht] at hP1
  have hK1 := va_K.moved hvm.symm hK1
  obtain ⟨hP, hD⟩ := va_join (wr := []) (w1 := [(h0, .inr (23, [v0, .ref h1, v1, v2, v3, v4, v5, v6, v7])), (h1, .inr (6, [v8, v9, .int 0]))]) hP hD [0, 1] [] rfl rfl (by decide) (by decide) hk1 hFc hP1 hD1
  have hK := (hK.sub (tys' := []) [] rfl).app hK1
  generalize H1 = H at hP hS ⊢
  have hP : va_P (dC, dI) vwCl [(h0, .inr (23, [v0, .ref h1, v1, v2, v3, v4, v5, v6, v7])), (h1, .inr (6, [v8, v9, .int 0]))] H := hP
  have hD : va_D A [(h0, .inr (23, [v0, .ref h1, v1, v2, v3, v4, v5, v6, v7])), (h1, .inr (6, [v8, v9, .int 0]))] := hD
  have hK : va_K (dC, dI) vwCl [] s := hK
  refine W.widen (k := 0) (n := 0) (Nat.le_of_ble_eq_true rfl) (Nat.le_of_ble_eq_true rfl) ?_
  refine lv_iconst (v := 1) hx hb dX16_leastLine_6 (by decide) ?_
  have hPc := hP.sub (ws' := [(h0, .inr (23, [v0, .ref h1, v1, v2, v3, v4, v5, v6, v7]))]) [0] rfl
  have hDc := hD.sub (ws' := [(h0, .inr (23, [v0, .ref h1, v1, v2, v3, v4, v5, v6, v7]))]) [0] (by decide) rfl
  have hKc := hK.sub (tys' := []) [] rfl
  have hFc := va_free (wc := [(h0, .inr (23, [v0, .ref h1, v1, v2, v3, v4, v5, v6, v7]))]) hD hS hA [0] rfl
  refine va_calli (va_runV (As := [.int 1, .int 1]) (rest := []) ⟨hx, hb, hml, hown, hts⟩ (kX16_start l dC dI g H.size h0 v0 (.ref h1) v1 v2 v3 v4 v5 v6 v7 ) (cwV 2 hts gX16_leastLine_X16_start rfl rfl rfl (by decide +kernel) ⟨Nat.le_of_ble_eq_true rfl, Nat.le_of_ble_eq_true rfl⟩) ⟨fun a U gg mk q => by obtain ⟨q0, q1, qP, qK, qD, qF⟩ := q; exact ⟨q0, q1, qP, va_K.moved (u := U) (U := U.calling gg mk a) (Vm.Alike.refl U.vm) qK, qD, ns_same qF⟩, va_recv hK hP (ci := 23) (q0 := 0) rfl rfl, fun U hU hW => ⟨rfl, by rw [hU], by rw [hU]; exact hPc, va_K.moved hW.alike hKc, hDc.weaken (fun _ _ _ _ => trivial), ns_call hF hS hFc hU hW⟩⟩ rfl rfl hl.1 rfl (lv_room (Nat.le_of_ble_eq_true rfl)) dX16_leastLine_7 ⟨Nat.le_of_ble_eq_true rfl, Nat.le_of_ble_eq_true rfl⟩) hS (fun q _ h => hFc q h) hFc (fun r9 u t H1 locs ht hvm hw hB hz1 hk1 hS => ?_)
  obtain rfl := hw
  obtain ⟨hP1, hK1, hD1⟩ := hB
  rw [ht] at hP1
  have hK1 := va_K.moved hvm.symm hK1
  obtain ⟨hP, hD⟩ := va_join (wr := [(h1, .inr (6, [v8, v9, .int 0]))]) (w1 := [(h0, .inr (23, [.int 1, .ref h1, v1, v2, v3, v4, v5, v6, v7]))]) hP hD [0] [1] rfl rfl (by decide) (by decide) hk1 hFc hP1 hD1
  have hK := (hK.sub (tys' := []) [] rfl).app hK1
  generalize H1 = H at hP hS ⊢
  have hP : va_P (dC, dI) vwCl [(h1, .inr (6, [v8, v9, .int 0])), (h0, .inr (23, [.int 1, .ref h1, v1, v2, v3, v4, v5, v6, v7]))] H := hP
  have hD : va_D A [(h1, .inr (6, [v8, v9, .int 0])), (h0, .inr (23, [.int 1, .ref h1, v1, v2, v3, v4, v5, v6, v7]))] := hD
  have hK : va_K (dC, dI) vwCl [] s := hK
  refine W.widen (k := 0) (n := 0) (Nat.le_of_ble_eq_true rfl) (Nat.le_of_ble_eq_true rfl) ?_
  refine lv_if_ne (tgt := 52) hx hb dX16_leastLine_10 (by decide) (fun c1 => ?_) (fun c1 => absurd c1 (by decide))
  refine va_ldcS hx hb hown (ns_f32 hF) dX16_leastLine_52 ?_
  refine lv_goto (tgt := 76) hx hb dX16_leastLine_54 (by decide) ?_
  have hP9 := hP.sub (ws' := [(h1, .inr (6, [v8, v9, .int 0])), (h0, .inr (23, [.int 1, .ref h1, v1, v2, v3, v4, v5, v6, v7]))]) [0, 1] rfl
  have hD9 := hD.sub (ws' := [(h1, .inr (6, [v8, v9, .int 0])), (h0, .inr (23, [.int 1, .ref h1, v1, v2, v3, v4, v5, v6, v7]))]) [0, 1] (by decide) rfl
  have hK9 := hK.sub (tys' := []) [] rfl
  refine W.widen (k := 0) (n := 0) (Nat.le_of_ble_eq_true rfl) (Nat.le_of_ble_eq_true rfl) ?_
  exact W.aret (v := .ref (g 34)) hx hb hr (by first | exact Or.inl ⟨_, rfl⟩ | exact Or.inr ⟨_, rfl⟩) (Or.inr ⟨_, rfl⟩) (fun t ht hW => ⟨⟨(), _, rfl, trivial, rfl, by rw [ht]; exact hP9, va_K.moved hW.alike hK9, hD9⟩, hS.F ht⟩) hS.2.2 dX16_leastLine_76
set_option maxHeartbeats 4000000 in
set_option maxRecDepth 100000 in
theorem kX6_holds (l : Launch) (dC : Nat → ClassId) (dI : Nat → Nat → Nat) (g : Nat → Nat) (sz : Nat) (h0 : Nat) (h1 : Nat) (h2 : Nat) (h3 : Nat) (h4 : Nat) (v0 : Value) (v1 : Value) (v2 : Value) (v3 : Value) (v4 : Value) (v5 : Value) (v6 : Value) (v7 : Value) (v8 : Value) (v9 : Value) (v10 : Value) (v11 : Value) (v12 : Value) (v13 : Value) (v14 : Value) (v15 : Value) (v16 : Value) (v17 : Value) (v18 : Value) (v19 : Value) (v20 : Value) (v21 : Value) : Met l yX6_holds wsX6_holds ({ frames := 2, cells := 0, slots := 0, locals := 40 }) (va_Pc [.ref h0, .ref h1, .ref h2, .int 20, .int 60] (fun U => U.heap.size = sz ∧ va_P (dC, dI) vwCl [(h0, .inr (13, [.ref h3, v0, v1, v2, v3])), (h3, .inr (10, [.ref h4, v4, v5, v6, v7, v8, v9, v10, v11])), (h4, .inr (11, [v12, .int 0])), (h1, .inr (14, [v13, v14, v15, v16, v17, v18, v19, v20, v21, .int (-1)]))] U.heap ∧ va_K (dC, dI) vwCl [] U ∧ va_D (fun _ => True) [(h0, .inr (13, [.ref h3, v0, v1, v2, v3])), (h3, .inr (10, [.ref h4, v4, v5, v6, v7, v8, v9, v10, v11])), (h4, .inr (11, [v12, .int 0])), (h1, .inr (14, [v13, v14, v15, v16, v17, v18, v19, v20, v21, .int (-1)]))] ∧ ns_F g (va_A [(h0, .inr (13, [.ref h3, v0, v1, v2, v3])), (h3, .inr (10, [.ref h4, v4, v5, v6, v7, v8, v9, v10, v11])), (h4, .inr (11, [v12, .int 0])), (h1, .inr (14, [v13, v14, v15, v16, v17, v18, v19, v20, v21, .int (-1)]))] sz) U U.heap)) (va_Qi (fun (r : Int32) (_ : Unit) => r = 1) (fun _ t => va_P (dC, dI) vwCl [(h0, .inr (13, [.ref h3, v0, v1, v2, v3])), (h3, .inr (10, [.ref h4, v4, v5, v6, v7, v8, v9, v10, v11])), (h4, .inr (11, [v12, .int 0])), (h1, .inr (14, [v13, v14, v15, v16, v17, v18, v19, v20, v21, .int (-1)]))] t.heap ∧ va_K (dC, dI) vwCl [] t ∧ va_D (va_A [(h0, .inr (13, [.ref h3, v0, v1, v2, v3])), (h3, .inr (10, [.ref h4, v4, v5, v6, v7, v8, v9, v10, v11])), (h4, .inr (11, [v12, .int 0])), (h1, .inr (14, [v13, v14, v15, v16, v17, v18, v19, v20, v21, .int (-1)]))] sz) [(h0, .inr (13, [.ref h3, v0, v1, v2, v3])), (h3, .inr (10, [.ref h4, v4, v5, v6, v7, v8, v9, v10, v11])), (h4, .inr (11, [v12, .int 0])), (h1, .inr (14, [v13, v14, v15, v16, v17, v18, v19, v20, v21, .int (-1)]))]) (va_A [(h0, .inr (13, [.ref h3, v0, v1, v2, v3])), (h3, .inr (10, [.ref h4, v4, v5, v6, v7, v8, v9, v10, v11])), (h4, .inr (11, [v12, .int 0])), (h1, .inr (14, [v13, v14, v15, v16, v17, v18, v19, v20, v21, .int (-1)]))] sz)) 0 0 (va_A [(h0, .inr (13, [.ref h3, v0, v1, v2, v3])), (h3, .inr (10, [.ref h4, v4, v5, v6, v7, v8, v9, v10, v11])), (h4, .inr (11, [v12, .int 0])), (h1, .inr (14, [v13, v14, v15, v16, v17, v18, v19, v20, v21, .int (-1)]))] sz) := by
  refine Met.ofW (cc := cX6_holds) (maxL := 7) (ret := (some .boolean)) (by decide) rfl ?_
  intro p e s m args below meth c s₁ B hml hv
  obtain ⟨rfl, hsz, hP, hK, hD0, hF⟩ := hv
  have hx := B.exec
  have hb := B.bytes
  have hr := B.returns
  have hts := atoms_spec (ws := wsX6_holds) B.pre
  have hown : s.vm.findClass RX6 = some m.cls := findClass_of_methodNamed B.named
  have hlocks := B.notSynchronized
  subst hsz
  have hD := hD0.self (sz := s.heap.size)
  generalize hAe : va_A [(h0, .inr (13, [.ref h3, v0, v1, v2, v3])), (h3, .inr (10, [.ref h4, v4, v5, v6, v7, v8, v9, v10, v11])), (h4, .inr (11, [v12, .int 0])), (h1, .inr (14, [v13, v14, v15, v16, v17, v18, v19, v20, v21, .int (-1)]))] s.heap.size = A at hD hF ⊢
  have hA : ∀ q : Nat, s.heap.size ≤ q → A q := fun q h => by rw [← hAe]; exact Or.inr h
  have hS : va_S A s.heap s.heap [] := va_S.rf
  have hP : va_P (dC, dI) vwCl [(h0, .inr (13, [.ref h3, v0, v1, v2, v3])), (h3, .inr (10, [.ref h4, v4, v5, v6, v7, v8, v9, v10, v11])), (h4, .inr (11, [v12, .int 0])), (h1, .inr (14, [v13, v14, v15, v16, v17, v18, v19, v20, v21, .int (-1)]))] s.heap := hP
  have hl := lv_entry ([.ref h0, .ref h1, .ref h2, .int 20, .int 60]) (n := 7) (Nat.le_of_ble_eq_true rfl)
  rw [lg_entry_eq]
  generalize (lg_sl ([.ref h0, .ref h1, .ref h2, .int 20, .int 60]) ++ List.replicate (7 - (lg_sl ([.ref h0, .ref h1, .ref h2, .int 20, .int 60])).length) Slot.unset).toArray = ls at hl ⊢
  have hl : lv_has ls 7 [(0, .ref h0), (1, .ref h1), (2, .ref h2), (3, .int 20), (4, .int 60)] := hl
  refine lv_iconst (v := 1) hx hb dX6_holds_0 (by decide) ?_
  refine lv_istore (lv' := [(5, .int 1), (0, .ref h0), (1, .ref h1), (2, .ref h2), (3, .int 20), (4, .int 60)]) hx hb dX6_holds_1 hl (by decide) rfl (fun ls hl => ?_)
  refine lv_iconst (v := 0) hx hb dX6_holds_3 (by decide) ?_
  refine lv_aload_n hx hb dX6_holds_4 rfl (lv_at hl 1 rfl) ?_
  refine va_get (D := (dC, dI)) (ci := 13) (v := .ref h3) (C := RX6) (T := TX6) (N := 5) hx hb hts (by decide +kernel) hown hK hP 0 rfl rfl 0 (by decide) (hts (.fieldLink RX6 20 "Nestprint$Sound" "nodes" "LNestprint$Nodes;") (by decide +kernel)) (fun _ h9 => h9) rfl dX6_holds_5 ?_
  have hPc := hP.sub (ws' := [(h3, .inr (10, [.ref h4, v4, v5, v6, v7, v8, v9, v10, v11])), (h4, .inr (11, [v12, .int 0]))]) [1, 2] rfl
  have hDc := hD.sub (ws' := [(h3, .inr (10, [.ref h4, v4, v5, v6, v7, v8, v9, v10, v11])), (h4, .inr (11, [v12, .int 0]))]) [1, 2] (by decide) rfl
  have hKc := hK.sub (tys' := []) [] rfl
  have hFc := va_free (wc := [(h3, .inr (10, [.ref h4, v4, v5, v6, v7, v8, v9, v10, v11])), (h4, .inr (11, [v12, .int 0]))]) hD hS hA [1, 2] rfl
  refine va_calli (va_runV (As := []) (rest := [.int 0]) ⟨hx, hb, hml, hown, hts⟩ (kX3_count l dC dI g s.heap.size h3 h4 v4 v5 v6 v7 v8 v9 v10 v11 v12 ) (cwV 0 hts gX6_holds_X3_count rfl rfl rfl (by decide +kernel) ⟨Nat.le_of_ble_eq_true rfl, Nat.le_of_ble_eq_true rfl⟩) ⟨fun a U gg mk q => by obtain ⟨q0, q1, qP, qK, qD, qF⟩ := q; exact ⟨q0, q1, qP, va_K.moved (u := U) (U := U.calling gg mk a) (Vm.Alike.refl U.vm) qK, qD, ns_same qF⟩, va_recv hK hP (ci := 10) (q0 := 1) rfl rfl, fun U hU hW => ⟨rfl, by rw [hU], by rw [hU]; exact hPc, va_K.moved hW.alike hKc, hDc.weaken (fun _ _ _ _ => trivial), ns_call hF hS hFc hU hW⟩⟩ rfl rfl hl.1 rfl (lv_room (Nat.le_of_ble_eq_true rfl)) dX6_holds_8 ⟨Nat.le_of_ble_eq_true rfl, Nat.le_of_ble_eq_true rfl⟩) hS (fun q _ h => hFc q h) hFc (fun r9 u t H1 locs ht hvm hw hB hz1 hk1 hS => ?_)
  obtain rfl := hw
  obtain ⟨hP1, hK1, hD1⟩ := hB
  rw [ht] at hP1
  have hK1 := va_K.moved hvm.symm hK1
  obtain ⟨hP, hD⟩ := va_join (wr := [(h0, .inr (13, [.ref h3, v0, v1, v2, v3])), (h1, .inr (14, [v13, v14, v15, v16, v17, v18, v19, v20, v21, .int (-1)]))]) (w1 := [(h3, .inr (10, [.ref h4, v4, v5, v6, v7, v8, v9, v10, v11])), (h4, .inr (11, [v12, .int 0]))]) hP hD [1, 2] [0, 3] rfl rfl (by decide) (by decide) hk1 hFc hP1 hD1
  have hK := (hK.sub (tys' := []) [] rfl).app hK1
  generalize H1 = H at hP hS ⊢
  have hP : va_P (dC, dI) vwCl [(h0, .inr (13, [.ref h3, v0, v1, v2, v3])), (h1, .inr (14, [v13, v14, v15, v16, v17, v18, v19, v20, v21, .int (-1)])), (h3, .inr (10, [.ref h4, v4, v5, v6, v7, v8, v9, v10, v11])), (h4, .inr (11, [v12, .int 0]))] H := hP
  have hD : va_D A [(h0, .inr (13, [.ref h3, v0, v1, v2, v3])), (h1, .inr (14, [v13, v14, v15, v16, v17, v18, v19, v20, v21, .int (-1)])), (h3, .inr (10, [.ref h4, v4, v5, v6, v7, v8, v9, v10, v11])), (h4, .inr (11, [v12, .int 0]))] := hD
  have hK : va_K (dC, dI) vwCl [] s := hK
  refine W.widen (k := 0) (n := 0) (Nat.le_of_ble_eq_true rfl) (Nat.le_of_ble_eq_true rfl) ?_
  refine lv_iconst (v := 2) hx hb dX6_holds_11 (by decide) ?_
  refine lv_isub hx hb dX6_holds_12 ?_
  refine lv_topi (fun y1 ey1 => ?_)
  obtain rfl : y1 = (-2) := ey1.trans (by decide)
  refine va_mmax hx hb (by rw [hml]; exact hl.1.symm) hown (hts (.methodLink RX6 41 Lib.Math.max.name) (by decide +kernel)) (hts (.static Lib.Math.max.name) (by decide +kernel)) (hts (.initialized "java/lang/Math") (by decide +kernel)) (hts (.code Lib.Math.max.name Lib.Math.max.code 2 (some .int)) (by decide +kernel)) (Nat.le_of_ble_eq_true rfl) (Nat.le_of_ble_eq_true rfl) (Nat.le_of_ble_eq_true rfl) (Nat.le_of_ble_eq_true rfl) dX6_holds_13 ?_
  refine lv_topi (fun y2 ey2 => ?_)
  obtain rfl : y2 = 0 := ey2.trans (by decide)
  refine lv_istore (lv' := [(6, .int 0), (5, .int 1), (0, .ref h0), (1, .ref h1), (2, .ref h2), (3, .int 20), (4, .int 60)]) hx hb dX6_holds_16 hl (by decide) rfl (fun ls hl => ?_)
  refine lv_iload hx hb dX6_holds_18 (lv_at hl 0 rfl) ?_
  refine lv_aload_n hx hb dX6_holds_20 rfl (lv_at hl 2 rfl) ?_
  refine va_get (D := (dC, dI)) (ci := 13) (v := .ref h3) (C := RX6) (T := TX6) (N := 5) hx hb hts (by decide +kernel) hown hK hP 0 rfl rfl 0 (by decide) (hts (.fieldLink RX6 20 "Nestprint$Sound" "nodes" "LNestprint$Nodes;") (by decide +kernel)) (fun _ h9 => h9) rfl dX6_holds_21 ?_
  have hPc := hP.sub (ws' := [(h3, .inr (10, [.ref h4, v4, v5, v6, v7, v8, v9, v10, v11])), (h4, .inr (11, [v12, .int 0]))]) [2, 3] rfl
  have hDc := hD.sub (ws' := [(h3, .inr (10, [.ref h4, v4, v5, v6, v7, v8, v9, v10, v11])), (h4, .inr (11, [v12, .int 0]))]) [2, 3] (by decide) rfl
  have hKc := hK.sub (tys' := []) [] rfl
  have hFc := va_free (wc := [(h3, .inr (10, [.ref h4, v4, v5, v6, v7, v8, v9, v10, v11])), (h4, .inr (11, [v12, .int 0]))]) hD hS hA [2, 3] rfl
  refine va_calli (va_runV (As := []) (rest := [.int 0]) ⟨hx, hb, hml, hown, hts⟩ (kX3_count l dC dI g H.size h3 h4 v4 v5 v6 v7 v8 v9 v10 v11 v12 ) (cwV 0 hts gX6_holds_X3_count rfl rfl rfl (by decide +kernel) ⟨Nat.le_of_ble_eq_true rfl, Nat.le_of_ble_eq_true rfl⟩) ⟨fun a U gg mk q => by obtain ⟨q0, q1, qP, qK, qD, qF⟩ := q; exact ⟨q0, q1, qP, va_K.moved (u := U) (U := U.calling gg mk a) (Vm.Alike.refl U.vm) qK, qD, ns_same qF⟩, va_recv hK hP (ci := 10) (q0 := 2) rfl rfl, fun U hU hW => ⟨rfl, by rw [hU], by rw [hU]; exact hPc, va_K.moved hW.alike hKc, hDc.weaken (fun _ _ _ _ => trivial), ns_call hF hS hFc hU hW⟩⟩ rfl rfl hl.1 rfl (lv_room (Nat.le_of_ble_eq_true rfl)) dX6_holds_24 ⟨Nat.le_of_ble_eq_true rfl, Nat.le_of_ble_eq_true rfl⟩) hS (fun q _ h => hFc q h) hFc (fun r9 u t H1 locs ht hvm hw hB hz1 hk1 hS => ?_)
  obtain rfl := hw
  obtain ⟨hP1, hK1, hD1⟩ := hB
  rw [ht] at hP1
  have hK1 := va_K.moved hvm.symm hK1
  obtain ⟨hP, hD⟩ := va_join (wr := [(h0, .inr (13, [.ref h3, v0, v1, v2, v3])), (h1, .inr (14, [v13, v14, v15, v16, v17, v18, v19, v20, v21, .int (-1)]))]) (w1 := [(h3, .inr (10, [.ref h4, v4, v5, v6, v7, v8, v9, v10, v11])), (h4, .inr (11, [v12, .int 0]))]) hP hD [2, 3] [0, 1] rfl rfl (by decide) (by decide) hk1 hFc hP1 hD1
  have hK := (hK.sub (tys' := []) [] rfl).app hK1
  generalize H1 = H at hP hS ⊢
  have hP : va_P (dC, dI) vwCl [(h0, .inr (13, [.ref h3, v0, v1, v2, v3])), (h1, .inr (14, [v13, v14, v15, v16, v17, v18, v19, v20, v21, .int (-1)])), (h3, .inr (10, [.ref h4, v4, v5, v6, v7, v8, v9, v10, v11])), (h4, .inr (11, [v12, .int 0]))] H := hP
  have hD : va_D A [(h0, .inr (13, [.ref h3, v0, v1, v2, v3])), (h1, .inr (14, [v13, v14, v15, v16, v17, v18, v19, v20, v21, .int (-1)])), (h3, .inr (10, [.ref h4, v4, v5, v6, v7, v8, v9, v10, v11])), (h4, .inr (11, [v12, .int 0]))] := hD
  have hK : va_K (dC, dI) vwCl [] s := hK
  refine W.widen (k := 0) (n := 0) (Nat.le_of_ble_eq_true rfl) (Nat.le_of_ble_eq_true rfl) ?_
  refine lv_icmp_ge (tgt := 84) hx hb dX6_holds_27 (by decide) (fun c3 => ?_) (fun c3 => absurd (by decide) c3)
  refine lv_aload_n hx hb dX6_holds_84 rfl (lv_at hl 3 rfl) ?_
  have hPc := hP.sub (ws' := [(h1, .inr (14, [v13, v14, v15, v16, v17, v18, v19, v20, v21, .int (-1)]))]) [1] rfl
  have hDc := hD.sub (ws' := [(h1, .inr (14, [v13, v14, v15, v16, v17, v18, v19, v20, v21, .int (-1)]))]) [1] (by decide) rfl
  have hKc := hK.sub (tys' := []) [] rfl
  have hFc := va_free (wc := [(h1, .inr (14, [v13, v14, v15, v16, v17, v18, v19, v20, v21, .int (-1)]))]) hD hS hA [1] rfl
  refine va_calli (va_runV (As := []) (rest := []) ⟨hx, hb, hml, hown, hts⟩ (kX7_isThere l dC dI g H.size h1 v13 v14 v15 v16 v17 v18 v19 v20 v21 ) (cwV 0 hts gX6_holds_X7_isThere rfl rfl rfl (by decide +kernel) ⟨Nat.le_of_ble_eq_true rfl, Nat.le_of_ble_eq_true rfl⟩) ⟨fun a U gg mk q => by obtain ⟨q0, q1, qP, qK, qD, qF⟩ := q; exact ⟨q0, q1, qP, va_K.moved (u := U) (U := U.calling gg mk a) (Vm.Alike.refl U.vm) qK, qD, ns_same qF⟩, va_recv hK hP (ci := 14) (q0 := 1) rfl rfl, fun U hU hW => ⟨rfl, by rw [hU], by rw [hU]; exact hPc, va_K.moved hW.alike hKc, hDc.weaken (fun _ _ _ _ => trivial), ns_call hF hS hFc hU hW⟩⟩ rfl rfl hl.1 rfl (lv_room (Nat.le_of_ble_eq_true rfl)) dX6_holds_85 ⟨Nat.le_of_ble_eq_true rfl, Nat.le_of_ble_eq_true rfl⟩) hS (fun q _ h => hFc q h) hFc (fun r9 u t H1 locs ht hvm hw hB hz1 hk1 hS => ?_)
  obtain rfl := hw
  obtain ⟨hP1, hK1, hD1⟩ := hB
  rw [ht] at hP1
  have hK1 := va_K.moved hvm.symm hK1
  obtain ⟨hP, hD⟩ := va_join (wr := [(h0, .inr (13, [.ref h3, v0, v1, v2, v3])), (h3, .inr (10, [.ref h4, v4, v5, v6, v7, v8, v9, v10, v11])), (h4, .inr (11, [v12, .int 0]))]) (w1 := [(h1, .inr (14, [v13, v14, v15, v16, v17, v18, v19, v20, v21, .int (-1)]))]) hP hD [1] [0, 2, 3] rfl rfl (by decide) (by decide) hk1 hFc hP1 hD1
  have hK := (hK.sub (tys' := []) [] rfl).app hK1
  generalize H1 = H at hP hS ⊢
  have hP : va_P (dC, dI) vwCl [(h0, .inr (13, [.ref h3, v0, v1, v2, v3])), (h3, .inr (10, [.ref h4, v4, v5, v6, v7, v8, v9, v10, v11])), (h4, .inr (11, [v12, .int 0])), (h1, .inr (14, [v13, v14, v15, v16, v17, v18, v19, v20, v21, .int (-1)]))] H := hP
  have hD : va_D A [(h0, .inr (13, [.ref h3, v0, v1, v2, v3])), (h3, .inr (10, [.ref h4, v4, v5, v6, v7, v8, v9, v10, v11])), (h4, .inr (11, [v12, .int 0])), (h1, .inr (14, [v13, v14, v15, v16, v17, v18, v19, v20, v21, .int (-1)]))] := hD
  have hK : va_K (dC, dI) vwCl [] s := hK
  refine W.widen (k := 0) (n := 0) (Nat.le_of_ble_eq_true rfl) (Nat.le_of_ble_eq_true rfl) ?_
  refine lv_if_ne (tgt := 94) hx hb dX6_holds_88 (by decide) (fun c4 => absurd (by decide) c4) (fun c4 => ?_)
  refine lv_iload hx hb dX6_holds_91 (lv_at hl 1 rfl) ?_
  have hP9 := hP.sub (ws' := [(h0, .inr (13, [.ref h3, v0, v1, v2, v3])), (h3, .inr (10, [.ref h4, v4, v5, v6, v7, v8, v9, v10, v11])), (h4, .inr (11, [v12, .int 0])), (h1, .inr (14, [v13, v14, v15, v16, v17, v18, v19, v20, v21, .int (-1)]))]) [0, 1, 2, 3] rfl
  have hD9 := hD.sub (ws' := [(h0, .inr (13, [.ref h3, v0, v1, v2, v3])), (h3, .inr (10, [.ref h4, v4, v5, v6, v7, v8, v9, v10, v11])), (h4, .inr (11, [v12, .int 0])), (h1, .inr (14, [v13, v14, v15, v16, v17, v18, v19, v20, v21, .int (-1)]))]) [0, 1, 2, 3] (by decide) rfl
  have hK9 := hK.sub (tys' := []) [] rfl
  refine W.widen (k := 0) (n := 0) (Nat.le_of_ble_eq_true rfl) (Nat.le_of_ble_eq_true rfl) ?_
  exact W.zret (v := 1) hx hb hr (by decide) (fun t ht hW => ⟨⟨_, (), rfl, rfl, by rw [ht]; exact hP9, va_K.moved hW.alike hK9, hD9⟩, hS.F ht⟩) hS.2.2 dX6_holds_93
set_option maxHeartbeats 4000000 in
set_option maxRecDepth 100000 in
theorem kX9_isSound (l : Launch) (dC : Nat → ClassId) (dI : Nat → Nat → Nat) (g : Nat → Nat) (sz : Nat) (h0 : Nat) (h1 : Nat) (h2 : Nat) (h3 : Nat) (h4 : Nat) (v0 : Value) (v1 : Value) (v2 : Value) (v3 : Value) (v4 : Value) (v5 : Value) (v6 : Value) (v7 : Value) (h5 : Nat) (v8 : Value) (v9 : Value) (v10 : Value) (v11 : Value) (v12 : Value) (v13 : Value) (v14 : Value) (v15 : Value) (v16 : Value) (v17 : Value) (v18 : Value) (v19 : Value) (v20 : Value) (v21 : Value) (v22 : Value) (v23 : Value) (v24 : Value) (v25 : Value) (v26 : Value) (v27 : Value) (v28 : Value) (v29 : Value) (v30 : Value) (v31 : Value) (v32 : Value) : Met l yX9_isSound wsX9_isSound ({ frames := 3, cells := 0, slots := 0, locals := 66 }) (va_Pc [.ref h0] (fun U => U.heap.size = sz ∧ va_P (dC, dI) vwCl [(h0, .inr (16, [v0, v1, v2, v3, v4, v5, v6, .ref h1, v7, .ref h4, .ref h5, .int 20, .int 60, v8, v9, v10])), (h1, .inr (13, [.ref h2, v11, v12, v13, v14])), (h2, .inr (10, [.ref h3, v15, v16, v17, v18, v19, v20, v21, v22])), (h3, .inr (11, [v23, .int 0])), (h4, .inr (14, [v24, v25, v26, v27, v28, v29, v30, v31, v32, .int (-1)]))] U.heap ∧ va_K (dC, dI) vwCl [] U ∧ va_D (fun _ => True) [(h0, .inr (16, [v0, v1, v2, v3, v4, v5, v6, .ref h1, v7, .ref h4, .ref h5, .int 20, .int 60, v8, v9, v10])), (h1, .inr (13, [.ref h2, v11, v12, v13, v14])), (h2, .inr (10, [.ref h3, v15, v16, v17, v18, v19, v20, v21, v22])), (h3, .inr (11, [v23, .int 0])), (h4, .inr (14, [v24, v25, v26, v27, v28, v29, v30, v31, v32, .int (-1)]))] ∧ ns_F g (va_A [(h0, .inr (16, [v0, v1, v2, v3, v4, v5, v6, .ref h1, v7, .ref h4, .ref h5, .int 20, .int 60, v8, v9, v10])), (h1, .inr (13, [.ref h2, v11, v12, v13, v14])), (h2, .inr (10, [.ref h3, v15, v16, v17, v18, v19, v20, v21, v22])), (h3, .inr (11, [v23, .int 0])), (h4, .inr (14, [v24, v25, v26, v27, v28, v29, v30, v31, v32, .int (-1)]))] sz) U U.heap)) (va_Qi (fun (r : Int32) (_ : Unit) => r = 1) (fun _ t => va_P (dC, dI) vwCl [(h0, .inr (16, [v0, v1, v2, v3, v4, v5, v6, .ref h1, v7, .ref h4, .ref h5, .int 20, .int 60, v8, v9, v10])), (h1, .inr (13, [.ref h2, v11, v12, v13, v14])), (h2, .inr (10, [.ref h3, v15, v16, v17, v18, v19, v20, v21, v22])), (h3, .inr (11, [v23, .int 0])), (h4, .inr (14, [v24, v25, v26, v27, v28, v29, v30, v31, v32, .int (-1)]))] t.heap ∧ va_K (dC, dI) vwCl [] t ∧ va_D (va_A [(h0, .inr (16, [v0, v1, v2, v3, v4, v5, v6, .ref h1, v7, .ref h4, .ref h5, .int 20, .int 60, v8, v9, v10])), (h1, .inr (13, [.ref h2, v11, v12, v13, v14])), (h2, .inr (10, [.ref h3, v15, v16, v17, v18, v19, v20, v21, v22])), (h3, .inr (11, [v23, .int 0])), (h4, .inr (14, [v24, v25, v26, v27, v28, v29, v30, v31, v32, .int (-1)]))] sz) [(h0, .inr (16, [v0, v1, v2, v3, v4, v5, v6, .ref h1, v7, .ref h4, .ref h5, .int 20, .int 60, v8, v9, v10])), (h1, .inr (13, [.ref h2, v11, v12, v13, v14])), (h2, .inr (10, [.ref h3, v15, v16, v17, v18, v19, v20, v21, v22])), (h3, .inr (11, [v23, .int 0])), (h4, .inr (14, [v24, v25, v26, v27, v28, v29, v30, v31, v32, .int (-1)]))]) (va_A [(h0, .inr (16, [v0, v1, v2, v3, v4, v5, v6, .ref h1, v7, .ref h4, .ref h5, .int 20, .int 60, v8, v9, v10])), (h1, .inr (13, [.ref h2, v11, v12, v13, v14])), (h2, .inr (10, [.ref h3, v15, v16, v17, v18, v19, v20, v21, v22])), (h3, .inr (11, [v23, .int 0])), (h4, .inr (14, [v24, v25, v26, v27, v28, v29, v30, v31, v32, .int (-1)]))] sz)) 0 0 (va_A [(h0, .inr (16, [v0, v1, v2, v3, v4, v5, v6, .ref h1, v7, .ref h4, .ref h5, .int 20, .int 60, v8, v9, v10])), (h1, .inr (13, [.ref h2, v11, v12, v13, v14])), (h2, .inr (10, [.ref h3, v15, v16, v17, v18, v19, v20, v21, v22])), (h3, .inr (11, [v23, .int 0])), (h4, .inr (14, [v24, v25, v26, v27, v28, v29, v30, v31, v32, .int (-1)]))] sz) := by
  refine Met.ofW (cc := cX9_isSound) (maxL := 1) (ret := (some .boolean)) (by decide) rfl ?_
  intro p e s m args below meth c s₁ B hml hv
  obtain ⟨rfl, hsz, hP, hK, hD0, hF⟩ := hv
  have hx := B.exec
  have hb := B.bytes
  have hr := B.returns
  have hts := atoms_spec (ws := wsX9_isSound) B.pre
  have hown : s.vm.findClass RX9 = some m.cls := findClass_of_methodNamed B.named
  have hlocks := B.notSynchronized
  subst hsz
  have hD := hD0.self (sz := s.heap.size)
  generalize hAe : va_A [(h0, .inr (16, [v0, v1, v2, v3, v4, v5, v6, .ref h1, v7, .ref h4, .ref h5, .int 20, .int 60, v8, v9, v10])), (h1, .inr (13, [.ref h2, v11, v12, v13, v14])), (h2, .inr (10, [.ref h3, v15, v16, v17, v18, v19, v20, v21, v22])), (h3, .inr (11, [v23, .int 0])), (h4, .inr (14, [v24, v25, v26, v27, v28, v29, v30, v31, v32, .int (-1)]))] s.heap.size = A at hD hF ⊢
  have hA : ∀ q : Nat, s.heap.size ≤ q → A q := fun q h => by rw [← hAe]; exact Or.inr h
  have hS : va_S A s.heap s.heap [] := va_S.rf
  have hP : va_P (dC, dI) vwCl [(h0, .inr (16, [v0, v1, v2, v3, v4, v5, v6, .ref h1, v7, .ref h4, .ref h5, .int 20, .int 60, v8, v9, v10])), (h1, .inr (13, [.ref h2, v11, v12, v13, v14])), (h2, .inr (10, [.ref h3, v15, v16, v17, v18, v19, v20, v21, v22])), (h3, .inr (11, [v23, .int 0])), (h4, .inr (14, [v24, v25, v26, v27, v28, v29, v30, v31, v32, .int (-1)]))] s.heap := hP
  have hl := lv_entry ([.ref h0]) (n := 1) (Nat.le_of_ble_eq_true rfl)
  rw [lg_entry_eq]
  generalize (lg_sl ([.ref h0]) ++ List.replicate (1 - (lg_sl ([.ref h0])).length) Slot.unset).toArray = ls at hl ⊢
  have hl : lv_has ls 1 [(0, .ref h0)] := hl
  refine lv_aload_n hx hb dX9_isSound_0 rfl (lv_at hl 0 rfl) ?_
  refine va_get (D := (dC, dI)) (ci := 16) (v := .ref h1) (C := RX9) (T := TX9) (N := 16) hx hb hts (by decide +kernel) hown hK hP 0 rfl rfl 7 (by decide) (hts (.fieldLink RX9 63 "Nestprint" "sound" "LNestprint$Sound;") (by decide +kernel)) (fun _ h9 => h9) rfl dX9_isSound_1 ?_
  refine lv_aload_n hx hb dX9_isSound_4 rfl (lv_at hl 0 rfl) ?_
  refine va_get (D := (dC, dI)) (ci := 16) (v := .ref h4) (C := RX9) (T := TX9) (N := 16) hx hb hts (by decide +kernel) hown hK hP 0 rfl rfl 9 (by decide) (hts (.fieldLink RX9 77 "Nestprint" "kept" "LNestprint$Tree;") (by decide +kernel)) (fun _ h9 => h9) rfl dX9_isSound_5 ?_
  refine lv_aload_n hx hb dX9_isSound_8 rfl (lv_at hl 0 rfl) ?_
  refine va_get (D := (dC, dI)) (ci := 16) (v := .ref h5) (C := RX9) (T := TX9) (N := 16) hx hb hts (by decide +kernel) hown hK hP 0 rfl rfl 10 (by decide) (hts (.fieldLink RX9 81 "Nestprint" "spare" "LNestprint$Tree;") (by decide +kernel)) (fun _ h9 => h9) rfl dX9_isSound_9 ?_
  refine lv_aload_n hx hb dX9_isSound_12 rfl (lv_at hl 0 rfl) ?_
  refine va_get (D := (dC, dI)) (ci := 16) (v := .int 20) (C := RX9) (T := TX9) (N := 16) hx hb hts (by decide +kernel) hown hK hP 0 rfl rfl 11 (by decide) (hts (.fieldLink RX9 84 "Nestprint" "width" "I") (by decide +kernel)) (fun _ h9 => h9) rfl dX9_isSound_13 ?_
  refine lv_aload_n hx hb dX9_isSound_16 rfl (lv_at hl 0 rfl) ?_
  refine va_get (D := (dC, dI)) (ci := 16) (v := .int 60) (C := RX9) (T := TX9) (N := 16) hx hb hts (by decide +kernel) hown hK hP 0 rfl rfl 12 (by decide) (hts (.fieldLink RX9 88 "Nestprint" "ribbon" "I") (by decide +kernel)) (fun _ h9 => h9) rfl dX9_isSound_17 ?_
  have hPc := hP.sub (ws' := [(h1, .inr (13, [.ref h2, v11, v12, v13, v14])), (h2, .inr (10, [.ref h3, v15, v16, v17, v18, v19, v20, v21, v22])), (h3, .inr (11, [v23, .int 0])), (h4, .inr (14, [v24, v25, v26, v27, v28, v29, v30, v31, v32, .int (-1)]))]) [1, 2, 3, 4] rfl
  have hDc := hD.sub (ws' := [(h1, .inr (13, [.ref h2, v11, v12, v13, v14])), (h2, .inr (10, [.ref h3, v15, v16, v17, v18, v19, v20, v21, v22])), (h3, .inr (11, [v23, .int 0])), (h4, .inr (14, [v24, v25, v26, v27, v28, v29, v30, v31, v32, .int (-1)]))]) [1, 2, 3, 4] (by decide) rfl
  have hKc := hK.sub (tys' := []) [] rfl
  have hFc := va_free (wc := [(h1, .inr (13, [.ref h2, v11, v12, v13, v14])), (h2, .inr (10, [.ref h3, v15, v16, v17, v18, v19, v20, v21, v22])), (h3, .inr (11, [v23, .int 0])), (h4, .inr (14, [v24, v25, v26, v27, v28, v29, v30, v31, v32, .int (-1)]))]) hD hS hA [1, 2, 3, 4] rfl
  refine va_calli (va_runV (As := [.ref h4, .ref h5, .int 20, .int 60]) (rest := []) ⟨hx, hb, hml, hown, hts⟩ (kX6_holds l dC dI g s.heap.size h1 h4 h5 h2 h3 v11 v12 v13 v14 v15 v16 v17 v18 v19 v20 v21 v22 v23 v24 v25 v26 v27 v28 v29 v30 v31 v32 ) (cwV 4 hts gX9_isSound_X6_holds rfl rfl rfl (by decide +kernel) ⟨Nat.le_of_ble_eq_true rfl, Nat.le_of_ble_eq_true rfl⟩) ⟨fun a U gg mk q => by obtain ⟨q0, q1, qP, qK, qD, qF⟩ := q; exact ⟨q0, q1, qP, va_K.moved (u := U) (U := U.calling gg mk a) (Vm.Alike.refl U.vm) qK, qD, ns_same qF⟩, va_recv hK hP (ci := 13) (q0 := 1) rfl rfl, fun U hU hW => ⟨rfl, by rw [hU], by rw [hU]; exact hPc, va_K.moved hW.alike hKc, hDc.weaken (fun _ _ _ _ => trivial), ns_call hF hS hFc hU hW⟩⟩ rfl rfl hl.1 rfl (lv_room (Nat.le_of_ble_eq_true rfl)) dX9_isSound_20 ⟨Nat.le_of_ble_eq_true rfl, Nat.le_of_ble_eq_true rfl⟩) hS (fun q _ h => hFc q h) hFc (fun r9 u t H1 locs ht hvm hw hB hz1 hk1 hS => ?_)
  obtain rfl := hw
  obtain ⟨hP1, hK1, hD1⟩ := hB
  rw [ht] at hP1
  have hK1 := va_K.moved hvm.symm hK1
  obtain ⟨hP, hD⟩ := va_join (wr := [(h0, .inr (16, [v0, v1, v2, v3, v4, v5, v6, .ref h1, v7, .ref h4, .ref h5, .int 20, .int 60, v8, v9, v10]))]) (w1 := [(h1, .inr (13, [.ref h2, v11, v12, v13, v14])), (h2, .inr (10, [.ref h3, v15, v16, v17, v18, v19, v20, v21, v22])), (h3, .inr (11, [v23, .int 0])), (h4, .inr (14, [v24, v25, v26, v27, v28, v29, v30, v31, v32, .int (-1)]))]) hP hD [1, 2, 3, 4] [0] rfl rfl (by decide) (by decide) hk1 hFc hP1 hD1
  have hK := (hK.sub (tys' := []) [] rfl).app hK1
  generalize H1 = H at hP hS ⊢
  have hP : va_P (dC, dI) vwCl [(h0, .inr (16, [v0, v1, v2, v3, v4, v5, v6, .ref h1, v7, .ref h4, .ref h5, .int 20, .int 60, v8, v9, v10])), (h1, .inr (13, [.ref h2, v11, v12, v13, v14])), (h2, .inr (10, [.ref h3, v15, v16, v17, v18, v19, v20, v21, v22])), (h3, .inr (11, [v23, .int 0])), (h4, .inr (14, [v24, v25, v26, v27, v28, v29, v30, v31, v32, .int (-1)]))] H := hP
  have hD : va_D A [(h0, .inr (16, [v0, v1, v2, v3, v4, v5, v6, .ref h1, v7, .ref h4, .ref h5, .int 20, .int 60, v8, v9, v10])), (h1, .inr (13, [.ref h2, v11, v12, v13, v14])), (h2, .inr (10, [.ref h3, v15, v16, v17, v18, v19, v20, v21, v22])), (h3, .inr (11, [v23, .int 0])), (h4, .inr (14, [v24, v25, v26, v27, v28, v29, v30, v31, v32, .int (-1)]))] := hD
  have hK : va_K (dC, dI) vwCl [] s := hK
  refine W.widen (k := 0) (n := 0) (Nat.le_of_ble_eq_true rfl) (Nat.le_of_ble_eq_true rfl) ?_
  have hP9 := hP.sub (ws' := [(h0, .inr (16, [v0, v1, v2, v3, v4, v5, v6, .ref h1, v7, .ref h4, .ref h5, .int 20, .int 60, v8, v9, v10])), (h1, .inr (13, [.ref h2, v11, v12, v13, v14])), (h2, .inr (10, [.ref h3, v15, v16, v17, v18, v19, v20, v21, v22])), (h3, .inr (11, [v23, .int 0])), (h4, .inr (14, [v24, v25, v26, v27, v28, v29, v30, v31, v32, .int (-1)]))]) [0, 1, 2, 3, 4] rfl
  have hD9 := hD.sub (ws' := [(h0, .inr (16, [v0, v1, v2, v3, v4, v5, v6, .ref h1, v7, .ref h4, .ref h5, .int 20, .int 60, v8, v9, v10])), (h1, .inr (13, [.ref h2, v11, v12, v13, v14])), (h2, .inr (10, [.ref h3, v15, v16, v17, v18, v19, v20, v21, v22])), (h3, .inr (11, [v23, .int 0])), (h4, .inr (14, [v24, v25, v26, v27, v28, v29, v30, v31, v32, .int (-1)]))]) [0, 1, 2, 3, 4] (by decide) rfl
  have hK9 := hK.sub (tys' := []) [] rfl
  refine W.widen (k := 0) (n := 0) (Nat.le_of_ble_eq_true rfl) (Nat.le_of_ble_eq_true rfl) ?_
  exact W.zret (v := 1) hx hb hr (by decide) (fun t ht hW => ⟨⟨_, (), rfl, rfl, by rw [ht]; exact hP9, va_K.moved hW.alike hK9, hD9⟩, hS.F ht⟩) hS.2.2 dX9_isSound_23
set_option maxHeartbeats 4000000 in
set_option maxRecDepth 100000 in
theorem kX16_isWhole (l : Launch) (dC : Nat → ClassId) (dI : Nat → Nat → Nat) (g : Nat → Nat) (sz : Nat) (h0 : Nat) (h1 : Nat) (v0 : Value) (v1 : Value) (v2 : Value) (v3 : Value) (v4 : Value) (v5 : Value) (v6 : Value) (v7 : Value) (v8 : Value) (v9 : Value) : Met l yX16_isWhole wsX16_isWhole ({ frames := 1, cells := 0, slots := 0, locals := 20 }) (va_Pc [.ref h0] (fun U => U.heap.size = sz ∧ va_P (dC, dI) vwCl [(h0, .inr (23, [v0, .ref h1, v1, v2, v3, v4, v5, v6, v7])), (h1, .inr (6, [v8, v9, .int 0]))] U.heap ∧ va_K (dC, dI) vwCl [] U ∧ va_D (fun _ => True) [(h0, .inr (23, [v0, .ref h1, v1, v2, v3, v4, v5, v6, v7])), (h1, .inr (6, [v8, v9, .int 0]))] ∧ ns_F g (va_A [(h0, .inr (23, [v0, .ref h1, v1, v2, v3, v4, v5, v6, v7])), (h1, .inr (6, [v8, v9, .int 0]))] sz) U U.heap)) (va_Qi (fun (r : Int32) (_ : Unit) => r = 1) (fun _ t => va_P (dC, dI) vwCl [(h0, .inr (23, [v0, .ref h1, v1, v2, v3, v4, v5, v6, v7])), (h1, .inr (6, [v8, v9, .int 0]))] t.heap ∧ va_K (dC, dI) vwCl [] t ∧ va_D (va_A [(h0, .inr (23, [v0, .ref h1, v1, v2, v3, v4, v5, v6, v7])), (h1, .inr (6, [v8, v9, .int 0]))] sz) [(h0, .inr (23, [v0, .ref h1, v1, v2, v3, v4, v5, v6, v7])), (h1, .inr (6, [v8, v9, .int 0]))]) (va_A [(h0, .inr (23, [v0, .ref h1, v1, v2, v3, v4, v5, v6, v7])), (h1, .inr (6, [v8, v9, .int 0]))] sz)) 0 0 (va_A [(h0, .inr (23, [v0, .ref h1, v1, v2, v3, v4, v5, v6, v7])), (h1, .inr (6, [v8, v9, .int 0]))] sz) := by
  refine Met.ofW (cc := cX16_isWhole) (maxL := 10) (ret := (some .boolean)) (by decide) rfl ?_
  intro p e s m args below meth c s₁ B hml hv
  obtain ⟨rfl, hsz, hP, hK, hD0, hF⟩ := hv
  have hx := B.exec
  have hb := B.bytes
  have hr := B.returns
  have hts := atoms_spec (ws := wsX16_isWhole) B.pre
  have hown : s.vm.findClass RX16 = some m.cls := findClass_of_methodNamed B.named
  have hlocks := B.notSynchronized
  subst hsz
  have hD := hD0.self (sz := s.heap.size)
  generalize hAe : va_A [(h0, .inr (23, [v0, .ref h1, v1, v2, v3, v4, v5, v6, v7])), (h1, .inr (6, [v8, v9, .int 0]))] s.heap.size = A at hD hF ⊢
  have hA : ∀ q : Nat, s.heap.size ≤ q → A q := fun q h => by rw [← hAe]; exact Or.inr h
  have hS : va_S A s.heap s.heap [] := va_S.rf
  have hP : va_P (dC, dI) vwCl [(h0, .inr (23, [v0, .ref h1, v1, v2, v3, v4, v5, v6, v7])), (h1, .inr (6, [v8, v9, .int 0]))] s.heap := hP
  have hl := lv_entry ([.ref h0]) (n := 10) (Nat.le_of_ble_eq_true rfl)
  rw [lg_entry_eq]
  generalize (lg_sl ([.ref h0]) ++ List.replicate (10 - (lg_sl ([.ref h0])).length) Slot.unset).toArray = ls at hl ⊢
  have hl : lv_has ls 10 [(0, .ref h0)] := hl
  refine lv_iconst (v := 0) hx hb dX16_isWhole_0 (by decide) ?_
  refine lv_aload_n hx hb dX16_isWhole_1 rfl (lv_at hl 0 rfl) ?_
  refine va_get (D := (dC, dI)) (ci := 23) (v := .ref h1) (C := RX16) (T := TX16) (N := 9) hx hb hts (by decide +kernel) hown hK hP 0 rfl rfl 1 (by decide) (hts (.fieldLink RX16 10 "NestprintModel" "nodes" "Ljava/util/ArrayList;") (by decide +kernel)) (fun _ h9 => h9) rfl dX16_isWhole_2 ?_
  have hPc := hP.sub (ws' := [(h1, .inr (6, [v8, v9, .int 0]))]) [1] rfl
  have hDc := hD.sub (ws' := [(h1, .inr (6, [v8, v9, .int 0]))]) [1] (by decide) rfl
  have hKc := hK.sub (tys' := []) [] rfl
  have hFc := va_free (wc := [(h1, .inr (6, [v8, v9, .int 0]))]) hD hS hA [1] rfl
  refine va_calli (va_runV (As := []) (rest := [.int 0]) ⟨hx, hb, hml, hown, hts⟩ (kJx4a65c_size_8abf5 l dC dI g s.heap.size h1 v8 v9 ) (cwV 0 hts gX16_isWhole_Jx4a65c_size_8abf5 rfl rfl rfl (by decide +kernel) ⟨Nat.le_of_ble_eq_true rfl, Nat.le_of_ble_eq_true rfl⟩) ⟨fun a U gg mk q => by obtain ⟨q0, q1, qP, qK, qD, qF⟩ := q; exact ⟨q0, q1, qP, va_K.moved (u := U) (U := U.calling gg mk a) (Vm.Alike.refl U.vm) qK, qD, ns_same qF⟩, va_recv hK hP (ci := 6) (q0 := 1) rfl rfl, fun U hU hW => ⟨rfl, by rw [hU], by rw [hU]; exact hPc, va_K.moved hW.alike hKc, hDc.weaken (fun _ _ _ _ => trivial), ns_call hF hS hFc hU hW⟩⟩ rfl rfl hl.1 rfl (lv_room (Nat.le_of_ble_eq_true rfl)) dX16_isWhole_5 ⟨Nat.le_of_ble_eq_true rfl, Nat.le_of_ble_eq_true rfl⟩) hS (fun q _ h => hFc q h) hFc (fun r9 u t H1 locs ht hvm hw hB hz1 hk1 hS => ?_)
  obtain rfl := hw
  obtain ⟨hP1, hK1, hD1⟩ := hB
  rw [ht] at hP1
  have hK1 := va_K.moved hvm.symm hK1
  obtain ⟨hP, hD⟩ := va_join (wr := [(h0, .inr (23, [v0, .ref h1, v1, v2, v3, v4, v5, v6, v7]))]) (w1 := [(h1, .inr (6, [v8, v9, .int 0]))]) hP hD [1] [0] rfl rfl (by decide) (by decide) hk1 hFc hP1 hD1
  have hK := (hK.sub (tys' := []) [] rfl).app hK1
  generalize H1 = H at hP hS ⊢
  have hP : va_P (dC, dI) vwCl [(h0, .inr (23, [v0, .ref h1, v1, v2, v3, v4, v5, v6, v7])), (h1, .inr (6, [v8, v9, .int 0]))] H := hP
  have hD : va_D A [(h0, .inr (23, [v0, .ref h1, v1, v2, v3, v4, v5, v6, v7])), (h1, .inr (6, [v8, v9, .int 0]))] := hD
  have hK : va_K (dC, dI) vwCl [] s := hK
  refine W.widen (k := 0) (n := 0) (Nat.le_of_ble_eq_true rfl) (Nat.le_of_ble_eq_true rfl) ?_
  refine lv_iconst (v := 2) hx hb dX16_isWhole_8 (by decide) ?_
  refine lv_isub hx hb dX16_isWhole_9 ?_
  refine lv_topi (fun y1 ey1 => ?_)
  obtain rfl : y1 = (-2) := ey1.trans (by decide)
  refine va_mmax hx hb (by rw [hml]; exact hl.1.symm) hown (hts (.methodLink RX16 353 Lib.Math.max.name) (by decide +kernel)) (hts (.static Lib.Math.max.name) (by decide +kernel)) (hts (.initialized "java/lang/Math") (by decide +kernel)) (hts (.code Lib.Math.max.name Lib.Math.max.code 2 (some .int)) (by decide +kernel)) (Nat.le_of_ble_eq_true rfl) (Nat.le_of_ble_eq_true rfl) (Nat.le_of_ble_eq_true rfl) (Nat.le_of_ble_eq_true rfl) dX16_isWhole_10 ?_
  refine lv_topi (fun y2 ey2 => ?_)
  obtain rfl : y2 = 0 := ey2.trans (by decide)
  refine lv_istore_n (lv' := [(1, .int 0), (0, .ref h0)]) hx hb dX16_isWhole_13 rfl hl (by decide) rfl (fun ls hl => ?_)
  refine lv_iload_n hx hb dX16_isWhole_14 rfl (lv_at hl 0 rfl) ?_
  refine lv_aload_n hx hb dX16_isWhole_15 rfl (lv_at hl 1 rfl) ?_
  refine va_get (D := (dC, dI)) (ci := 23) (v := .ref h1) (C := RX16) (T := TX16) (N := 9) hx hb hts (by decide +kernel) hown hK hP 0 rfl rfl 1 (by decide) (hts (.fieldLink RX16 10 "NestprintModel" "nodes" "Ljava/util/ArrayList;") (by decide +kernel)) (fun _ h9 => h9) rfl dX16_isWhole_16 ?_
  have hPc := hP.sub (ws' := [(h1, .inr (6, [v8, v9, .int 0]))]) [1] rfl
  have hDc := hD.sub (ws' := [(h1, .inr (6, [v8, v9, .int 0]))]) [1] (by decide) rfl
  have hKc := hK.sub (tys' := []) [] rfl
  have hFc := va_free (wc := [(h1, .inr (6, [v8, v9, .int 0]))]) hD hS hA [1] rfl
  refine va_calli (va_runV (As := []) (rest := [.int 0]) ⟨hx, hb, hml, hown, hts⟩ (kJx4a65c_size_8abf5 l dC dI g H.size h1 v8 v9 ) (cwV 0 hts gX16_isWhole_Jx4a65c_size_8abf5 rfl rfl rfl (by decide +kernel) ⟨Nat.le_of_ble_eq_true rfl, Nat.le_of_ble_eq_true rfl⟩) ⟨fun a U gg mk q => by obtain ⟨q0, q1, qP, qK, qD, qF⟩ := q; exact ⟨q0, q1, qP, va_K.moved (u := U) (U := U.calling gg mk a) (Vm.Alike.refl U.vm) qK, qD, ns_same qF⟩, va_recv hK hP (ci := 6) (q0 := 1) rfl rfl, fun U hU hW => ⟨rfl, by rw [hU], by rw [hU]; exact hPc, va_K.moved hW.alike hKc, hDc.weaken (fun _ _ _ _ => trivial), ns_call hF hS hFc hU hW⟩⟩ rfl rfl hl.1 rfl (lv_room (Nat.le_of_ble_eq_true rfl)) dX16_isWhole_19 ⟨Nat.le_of_ble_eq_true rfl, Nat.le_of_ble_eq_true rfl⟩) hS (fun q _ h => hFc q h) hFc (fun r9 u t H1 locs ht hvm hw hB hz1 hk1 hS => ?_)
  obtain rfl := hw
  obtain ⟨hP1, hK1, hD1⟩ := hB
  rw [ht] at hP1
  have hK1 := va_K.moved hvm.symm hK1
  obtain ⟨hP, hD⟩ := va_join (wr := [(h0, .inr (23, [v0, .ref h1, v1, v2, v3, v4, v5, v6, v7]))]) (w1 := [(h1, .inr (6, [v8, v9, .int 0]))]) hP hD [1] [0] rfl rfl (by decide) (by decide) hk1 hFc hP1 hD1
  have hK := (hK.sub (tys' := []) [] rfl).app hK1
  generalize H1 = H at hP hS ⊢
  have hP : va_P (dC, dI) vwCl [(h0, .inr (23, [v0, .ref h1, v1, v2, v3, v4, v5, v6, v7])), (h1, .inr (6, [v8, v9, .int 0]))] H := hP
  have hD : va_D A [(h0, .inr (23, [v0, .ref h1, v1, v2, v3, v4, v5, v6, v7])), (h1, .inr (6, [v8, v9, .int 0]))] := hD
  have hK : va_K (dC, dI) vwCl [] s := hK
  refine W.widen (k := 0) (n := 0) (Nat.le_of_ble_eq_true rfl) (Nat.le_of_ble_eq_true rfl) ?_
  refine lv_icmp_ge (tgt := 290) hx hb dX16_isWhole_22 (by decide) (fun c3 => ?_) (fun c3 => absurd (by decide) c3)
  refine lv_iconst (v := 1) hx hb dX16_isWhole_290 (by decide) ?_
  have hP9 := hP.sub (ws' := [(h0, .inr (23, [v0, .ref h1, v1, v2, v3, v4, v5, v6, v7])), (h1, .inr (6, [v8, v9, .int 0]))]) [0, 1] rfl
  have hD9 := hD.sub (ws' := [(h0, .inr (23, [v0, .ref h1, v1, v2, v3, v4, v5, v6, v7])), (h1, .inr (6, [v8, v9, .int 0]))]) [0, 1] (by decide) rfl
  have hK9 := hK.sub (tys' := []) [] rfl
  refine W.widen (k := 0) (n := 0) (Nat.le_of_ble_eq_true rfl) (Nat.le_of_ble_eq_true rfl) ?_
  exact W.zret (v := 1) hx hb hr (by decide) (fun t ht hW => ⟨⟨_, (), rfl, rfl, by rw [ht]; exact hP9, va_K.moved hW.alike hK9, hD9⟩, hS.F ht⟩) hS.2.2 dX16_isWhole_291
