def y_Law_plan : MethodName := ⟨R_Law, "plan", "(LRingWeaver;I[J)I"⟩
def w_Law_plan : List Cond := .codeWith y_Law_plan method_5_code 4 (some .int) [(0, 9, 12, 26)] :: dcW
theorem d_Law_plan_0 : decode method_5_code 0 = .ok (.aload_n 2, 1) := by decide +kernel
theorem d_Law_plan_1 : decode method_5_code 1 = .ok (.iconst 0, 1) := by decide +kernel
theorem d_Law_plan_2 : decode method_5_code 2 = .ok (.aload_n 0, 1) := by decide +kernel
theorem d_Law_plan_3 : decode method_5_code 3 = .ok (.iload_n 1, 1) := by decide +kernel
theorem d_Law_plan_4 : decode method_5_code 4 = .ok (.invokevirtual 23, 3) := by decide +kernel
theorem d_Law_plan_7 : decode method_5_code 7 = .ok (.i2l, 1) := by decide +kernel
theorem d_Law_plan_8 : decode method_5_code 8 = .ok (.lastore, 1) := by decide +kernel
theorem d_Law_plan_9 : decode method_5_code 9 = .ok (.goto 6, 3) := by decide +kernel
theorem d_Law_plan_12 : decode method_5_code 12 = .ok (.astore_n 3, 1) := by decide +kernel
theorem d_Law_plan_13 : decode method_5_code 13 = .ok (.iconst 1, 1) := by decide +kernel
theorem d_Law_plan_14 : decode method_5_code 14 = .ok (.ireturn, 1) := by decide +kernel
theorem d_Law_plan_15 : decode method_5_code 15 = .ok (.iconst 0, 1) := by decide +kernel
theorem d_Law_plan_16 : decode method_5_code 16 = .ok (.ireturn, 1) := by decide +kernel
set_option maxHeartbeats 4000000 in
set_option maxRecDepth 100000 in
theorem c_Law_plan (l : Launch) (hlt : l.stackTraces = false) (dC : Nat → ClassId) (dI : Nat → Nat → Nat) (cI : dcG) (a0 : Nat) (a0_net : Nat) (a0_boundary : Nat) (a0_rings : Nat) (a0_result : Nat) (a0_result_plan : Nat) (a0_result_x : Nat) (a0_result_y : Nat) (l0_result_plan : List Int32) (k0_result_plan : Nat) (q0_result_plan : Nat) (f0_result_plan : Nat → Int32) (h0_result_plan : rowOk l0_result_plan k0_result_plan f0_result_plan) (v0_result_polygons : Int32) (v0_result_twiceArea : Int64) (y1 : Int32) (ex : Nat) (rv : Int32) (cc : Nat) (cs : Nat) (qo : Nat) (go : Nat → Int64) (sz : Nat) (hf : f_Wea_plan l0_result_plan y1 = some (cc, cs, ex, rv)) (hex : ex = 0 ∨ ex = 4) : Met l y_Law_plan w_Law_plan { frames := 7, cells := cc, slots := cs, locals := 111 } (dc_PreL (dC, dI) (dcT cI) [(a0, .inr (5, [.ref a0_net, .ref a0_boundary, .ref a0_rings, .ref a0_result])), (a0_result, .inr (4, [.ref a0_result_plan, .ref a0_result_x, .ref a0_result_y, .int v0_result_polygons, .long v0_result_twiceArea])), (a0_result_plan, .inr (0, [.ref q0_result_plan, .int (nI l0_result_plan.length)])), (q0_result_plan, .inl (cI.1, k0_result_plan, .inl f0_result_plan)), (qo, .inl (cI.2.1, 1, .inr (.inl go)))] sz [.ref a0, .int y1, .ref qo]) (dc_Q (dC, dI) (some (.int (exC ex))) (fun x : Unit => True) (fun x => [(a0, .inr (5, [.ref a0_net, .ref a0_boundary, .ref a0_rings, .ref a0_result])), (a0_result, .inr (4, [.ref a0_result_plan, .ref a0_result_x, .ref a0_result_y, .int v0_result_polygons, .long v0_result_twiceArea])), (a0_result_plan, .inr (0, [.ref q0_result_plan, .int (nI l0_result_plan.length)])), (q0_result_plan, .inl (cI.1, k0_result_plan, .inl f0_result_plan)), (qo, .inl (cI.2.1, 1, .inr (.inl (outG ex go rv.toInt64))))]) (va_A [(a0, .inr (5, [.ref a0_net, .ref a0_boundary, .ref a0_rings, .ref a0_result])), (a0_result, .inr (4, [.ref a0_result_plan, .ref a0_result_x, .ref a0_result_y, .int v0_result_polygons, .long v0_result_twiceArea])), (a0_result_plan, .inr (0, [.ref q0_result_plan, .int (nI l0_result_plan.length)])), (q0_result_plan, .inl (cI.1, k0_result_plan, .inl f0_result_plan)), (qo, .inl (cI.2.1, 1, .inr (.inl go)))] sz)) cc cs (va_A [(a0, .inr (5, [.ref a0_net, .ref a0_boundary, .ref a0_rings, .ref a0_result])), (a0_result, .inr (4, [.ref a0_result_plan, .ref a0_result_x, .ref a0_result_y, .int v0_result_polygons, .long v0_result_twiceArea])), (a0_result_plan, .inr (0, [.ref q0_result_plan, .int (nI l0_result_plan.length)])), (q0_result_plan, .inl (cI.1, k0_result_plan, .inl f0_result_plan)), (qo, .inl (cI.2.1, 1, .inr (.inl go)))] sz) := by
  refine va_MetW (cc := method_5_code) (maxL := 4) (ret := some .int) (hh := [(0, 9, 12, 26)]) (by decide) rfl ?_
  intro p e s m args below meth c s₁ B hml hv
  obtain ⟨rfl, ⟨⟨hsz, hP, hK, hD0, hN⟩, hX, hStr, hZ⟩, hNc⟩ := hv
  have hx := B.exec
  have hb := B.bytes
  have hr := B.returns
  have hlocks := B.notSynchronized
  have hown : s.vm.findClass R_Law = some m.cls := findClass_of_methodNamed B.named
  have hts : ∀ w ∈ dcW, w.before [.ref a0, .int y1, .ref qo].toArray s = true := fun w h => atoms_spec (ws := w_Law_plan) B.pre w (List.mem_cons_of_mem _ h)
  have htab : c.exceptionTable.toList = tableOf [(0, 9, 12, 26)] := vx_table (x := y_Law_plan) (y := y_Law_plan) (bytes := method_5_code) (maxL' := 4) (ret' := some .int) (hh := [(0, 9, 12, 26)]) B (atoms_spec (ws := w_Law_plan) B.pre _ List.mem_cons_self)
  subst hsz
  have hD := hD0.self (sz := s.heap.size)
  generalize hAe : va_A [(a0, .inr (5, [.ref a0_net, .ref a0_boundary, .ref a0_rings, .ref a0_result])), (a0_result, .inr (4, [.ref a0_result_plan, .ref a0_result_x, .ref a0_result_y, .int v0_result_polygons, .long v0_result_twiceArea])), (a0_result_plan, .inr (0, [.ref q0_result_plan, .int (nI l0_result_plan.length)])), (q0_result_plan, .inl (cI.1, k0_result_plan, .inl f0_result_plan)), (qo, .inl (cI.2.1, 1, .inr (.inl go)))] s.heap.size = A at hD hZ ⊢
  have hA : ∀ q : Nat, s.heap.size ≤ q → A q := fun q h => by rw [← hAe]; exact Or.inr h
  have hS : va_S A s.heap s.heap [] := va_S.rf
  have hl := lv_entry ([.ref a0, .int y1, .ref qo]) (n := 4) (Nat.le_of_ble_eq_true rfl)
  rw [lg_entry_eq]
  generalize (lg_sl ([.ref a0, .int y1, .ref qo]) ++ List.replicate (4 - (lg_sl ([.ref a0, .int y1, .ref qo])).length) Slot.unset).toArray = ls at hl ⊢
  have hl : lv_has ls 4 [(0, .ref a0), (1, .int y1), (2, .ref qo)] := hl
  refine lv_aload_n hx hb d_Law_plan_0 rfl (lv_at hl 2 rfl) ?_
  refine lv_iconst (v := 0) hx hb d_Law_plan_1 (by decide) ?_
  refine lv_aload_n hx hb d_Law_plan_2 rfl (lv_at hl 0 rfl) ?_
  refine lv_iload_n hx hb d_Law_plan_3 rfl (lv_at hl 1 rfl) ?_
  refine dc_callX (wc := [(a0, .inr (5, [.ref a0_net, .ref a0_boundary, .ref a0_rings, .ref a0_result])), (a0_result, .inr (4, [.ref a0_result_plan, .ref a0_result_x, .ref a0_result_y, .int v0_result_polygons, .long v0_result_twiceArea])), (a0_result_plan, .inr (0, [.ref q0_result_plan, .int (nI l0_result_plan.length)])), (q0_result_plan, .inl (cI.1, k0_result_plan, .inl f0_result_plan))]) (wr := [(qo, .inl (cI.2.1, 1, .inr (.inl go)))]) [0, 1, 2, 3] [4] hP hD hS hA rfl rfl rfl rfl rfl (fun hPc hDc hFc => vx_runV (As := [.int y1]) (rest := [.int 0, .ref qo]) ⟨hx, hb, hml, hown, hts⟩ (c_Wea_plan l hlt dC dI cI a0 a0_net a0_boundary a0_rings a0_result a0_result_plan a0_result_x a0_result_y l0_result_plan k0_result_plan q0_result_plan f0_result_plan h0_result_plan v0_result_polygons v0_result_twiceArea y1 ex rv cc cs s.heap.size hf) (cwV 1 hts (gV wm_587 wm_588 wm_589 wm_1 wm_590) rfl rfl rfl (by decide +kernel) ⟨Nat.le_of_ble_eq_true rfl, Nat.le_of_ble_eq_true rfl⟩) (dc_preVX hK hN hX hStr hZ hS hFc hPc hDc (va_recv hK hPc (ci := 5) (q0 := 0) rfl rfl)) rfl rfl hl.1 rfl (lv_room (Nat.le_of_ble_eq_true rfl)) d_Law_plan_4 ⟨by show 0 + cc ≤ cc; omega, by show 0 + cs ≤ cs; omega⟩) (fun he x H locs hp hP hD hS => ?_) (fun he x H locs q9 ce hp hP hD hS hce hcv hcl => ?_)
  · subst he
    have hP : va_P (dC, dI) vwCl [(qo, .inl (cI.2.1, 1, .inr (.inl go))), (a0, .inr (5, [.ref a0_net, .ref a0_boundary, .ref a0_rings, .ref a0_result])), (a0_result, .inr (4, [.ref a0_result_plan, .ref a0_result_x, .ref a0_result_y, .int v0_result_polygons, .long v0_result_twiceArea])), (a0_result_plan, .inr (0, [.ref q0_result_plan, .int (nI l0_result_plan.length)])), (q0_result_plan, .inl (cI.1, k0_result_plan, .inl f0_result_plan))] H := hP
    have hD : va_D A [(qo, .inl (cI.2.1, 1, .inr (.inl go))), (a0, .inr (5, [.ref a0_net, .ref a0_boundary, .ref a0_rings, .ref a0_result])), (a0_result, .inr (4, [.ref a0_result_plan, .ref a0_result_x, .ref a0_result_y, .int v0_result_polygons, .long v0_result_twiceArea])), (a0_result_plan, .inr (0, [.ref q0_result_plan, .int (nI l0_result_plan.length)])), (q0_result_plan, .inl (cI.1, k0_result_plan, .inl f0_result_plan))] := hD
    refine lv_i2l hx hb d_Law_plan_7 rfl ?_
    refine va_last hx hb hK hP hD hS 0 1 rfl rfl (by unfold vp_in; decide) d_Law_plan_8 (fun H locs hP hD hS => ?_)
    have hP : va_P (dC, dI) vwCl [(qo, .inl (cI.2.1, 1, .inr (.inl (outG 0 go rv.toInt64)))), (a0, .inr (5, [.ref a0_net, .ref a0_boundary, .ref a0_rings, .ref a0_result])), (a0_result, .inr (4, [.ref a0_result_plan, .ref a0_result_x, .ref a0_result_y, .int v0_result_polygons, .long v0_result_twiceArea])), (a0_result_plan, .inr (0, [.ref q0_result_plan, .int (nI l0_result_plan.length)])), (q0_result_plan, .inl (cI.1, k0_result_plan, .inl f0_result_plan))] H := hP
    have hD : va_D A [(qo, .inl (cI.2.1, 1, .inr (.inl (outG 0 go rv.toInt64)))), (a0, .inr (5, [.ref a0_net, .ref a0_boundary, .ref a0_rings, .ref a0_result])), (a0_result, .inr (4, [.ref a0_result_plan, .ref a0_result_x, .ref a0_result_y, .int v0_result_polygons, .long v0_result_twiceArea])), (a0_result_plan, .inr (0, [.ref q0_result_plan, .int (nI l0_result_plan.length)])), (q0_result_plan, .inl (cI.1, k0_result_plan, .inl f0_result_plan))] := hD
    refine lv_goto (tgt := 15) hx hb d_Law_plan_9 (by decide) ?_
    refine lv_iconst (v := 0) hx hb d_Law_plan_15 (by decide) ?_
    refine W.widen (k := cc) (n := cs) (by show 0 + cc ≤ cc; omega) (by show 0 + cs ≤ cs; omega) ?_
    exact W.iret (v := 0) hx hb hr (fun t ht hW => ⟨⟨rfl, x, hp, by rw [ht]; exact hP.sub [1, 2, 3, 4, 0] rfl, hD.sub [1, 2, 3, 4, 0] rfl rfl⟩, hS.F ht⟩) hS.2.2 d_Law_plan_16
  · rcases hex with hex | hex
    · exact absurd hex he
    · subst hex
      have hP : va_P (dC, dI) vwCl [(qo, .inl (cI.2.1, 1, .inr (.inl go))), (a0, .inr (5, [.ref a0_net, .ref a0_boundary, .ref a0_rings, .ref a0_result])), (a0_result, .inr (4, [.ref a0_result_plan, .ref a0_result_x, .ref a0_result_y, .int v0_result_polygons, .long v0_result_twiceArea])), (a0_result_plan, .inr (0, [.ref q0_result_plan, .int (nI l0_result_plan.length)])), (q0_result_plan, .inl (cI.1, k0_result_plan, .inl f0_result_plan))] H := hP
      have hD : va_D A [(qo, .inl (cI.2.1, 1, .inr (.inl go))), (a0, .inr (5, [.ref a0_net, .ref a0_boundary, .ref a0_rings, .ref a0_result])), (a0_result, .inr (4, [.ref a0_result_plan, .ref a0_result_x, .ref a0_result_y, .int v0_result_polygons, .long v0_result_twiceArea])), (a0_result_plan, .inr (0, [.ref q0_result_plan, .int (nI l0_result_plan.length)])), (q0_result_plan, .inl (cI.1, k0_result_plan, .inl f0_result_plan))] := hD
      refine vx_catch (name := "java/lang/IndexOutOfBoundsException") hown (tableOf []) ⟨0, 9, 12, 26⟩ (tableOf []) (htab.trans rfl) (fun z hz => nomatch hz) (by decide) (by decide) (hts _ wm_586) (hX.at _ wx_593) hce hcv hcl ?_
      refine lv_astore_n (lv' := [(3, .ref q9), (0, .ref a0), (1, .int y1), (2, .ref qo)]) hx hb d_Law_plan_12 rfl hl (by decide) rfl (fun ls hl => ?_)
      refine lv_iconst (v := 1) hx hb d_Law_plan_13 (by decide) ?_
      refine W.widen (k := cc) (n := cs) (by show 0 + cc ≤ cc; omega) (by show 0 + cs ≤ cs; omega) ?_
      exact W.iret (v := 1) hx hb hr (fun t ht hW => ⟨⟨rfl, x, hp, by rw [ht]; exact hP.sub [1, 2, 3, 4, 0] rfl, hD.sub [1, 2, 3, 4, 0] rfl rfl⟩, hS.F ht⟩) hS.2.2 d_Law_plan_14
def y_Law_ordinate : MethodName := ⟨R_Law, "ordinate", "(LRingWeaver;II[J)I"⟩
def w_Law_ordinate : List Cond := .codeWith y_Law_ordinate method_6_code 5 (some .int) [(0, 10, 13, 26)] :: dcW
theorem d_Law_ordinate_0 : decode method_6_code 0 = .ok (.aload_n 3, 1) := by decide +kernel
theorem d_Law_ordinate_1 : decode method_6_code 1 = .ok (.iconst 0, 1) := by decide +kernel
theorem d_Law_ordinate_2 : decode method_6_code 2 = .ok (.aload_n 0, 1) := by decide +kernel
theorem d_Law_ordinate_3 : decode method_6_code 3 = .ok (.iload_n 1, 1) := by decide +kernel
theorem d_Law_ordinate_4 : decode method_6_code 4 = .ok (.iload_n 2, 1) := by decide +kernel
theorem d_Law_ordinate_5 : decode method_6_code 5 = .ok (.invokevirtual 28, 3) := by decide +kernel
theorem d_Law_ordinate_8 : decode method_6_code 8 = .ok (.i2l, 1) := by decide +kernel
theorem d_Law_ordinate_9 : decode method_6_code 9 = .ok (.lastore, 1) := by decide +kernel
theorem d_Law_ordinate_10 : decode method_6_code 10 = .ok (.goto 7, 3) := by decide +kernel
theorem d_Law_ordinate_13 : decode method_6_code 13 = .ok (.astore 4, 2) := by decide +kernel
theorem d_Law_ordinate_15 : decode method_6_code 15 = .ok (.iconst 1, 1) := by decide +kernel
theorem d_Law_ordinate_16 : decode method_6_code 16 = .ok (.ireturn, 1) := by decide +kernel
theorem d_Law_ordinate_17 : decode method_6_code 17 = .ok (.iconst 0, 1) := by decide +kernel
theorem d_Law_ordinate_18 : decode method_6_code 18 = .ok (.ireturn, 1) := by decide +kernel
set_option maxHeartbeats 4000000 in
set_option maxRecDepth 100000 in
theorem c_Law_ordinate (l : Launch) (hlt : l.stackTraces = false) (dC : Nat → ClassId) (dI : Nat → Nat → Nat) (cI : dcG) (a0 : Nat) (a0_net : Nat) (a0_boundary : Nat) (a0_rings : Nat) (a0_result : Nat) (a0_result_plan : Nat) (a0_result_x : Nat) (a0_result_y : Nat) (l0_result_x : List Int32) (k0_result_x : Nat) (q0_result_x : Nat) (f0_result_x : Nat → Int32) (h0_result_x : rowOk l0_result_x k0_result_x f0_result_x) (l0_result_y : List Int32) (k0_result_y : Nat) (q0_result_y : Nat) (f0_result_y : Nat → Int32) (h0_result_y : rowOk l0_result_y k0_result_y f0_result_y) (v0_result_polygons : Int32) (v0_result_twiceArea : Int64) (y1 : Int32) (y2 : Int32) (ex : Nat) (rv : Int32) (cc : Nat) (cs : Nat) (qo : Nat) (go : Nat → Int64) (sz : Nat) (hf : f_Wea_ordinate l0_result_x l0_result_y y1 y2 = some (cc, cs, ex, rv)) (hex : ex = 0 ∨ ex = 4) : Met l y_Law_ordinate w_Law_ordinate { frames := 7, cells := cc, slots := cs, locals := 112 } (dc_PreL (dC, dI) (dcT cI) [(a0, .inr (5, [.ref a0_net, .ref a0_boundary, .ref a0_rings, .ref a0_result])), (a0_result, .inr (4, [.ref a0_result_plan, .ref a0_result_x, .ref a0_result_y, .int v0_result_polygons, .long v0_result_twiceArea])), (a0_result_x, .inr (0, [.ref q0_result_x, .int (nI l0_result_x.length)])), (q0_result_x, .inl (cI.1, k0_result_x, .inl f0_result_x)), (a0_result_y, .inr (0, [.ref q0_result_y, .int (nI l0_result_y.length)])), (q0_result_y, .inl (cI.1, k0_result_y, .inl f0_result_y)), (qo, .inl (cI.2.1, 1, .inr (.inl go)))] sz [.ref a0, .int y1, .int y2, .ref qo]) (dc_Q (dC, dI) (some (.int (exC ex))) (fun x : Unit => True) (fun x => [(a0, .inr (5, [.ref a0_net, .ref a0_boundary, .ref a0_rings, .ref a0_result])), (a0_result, .inr (4, [.ref a0_result_plan, .ref a0_result_x, .ref a0_result_y, .int v0_result_polygons, .long v0_result_twiceArea])), (a0_result_x, .inr (0, [.ref q0_result_x, .int (nI l0_result_x.length)])), (q0_result_x, .inl (cI.1, k0_result_x, .inl f0_result_x)), (a0_result_y, .inr (0, [.ref q0_result_y, .int (nI l0_result_y.length)])), (q0_result_y, .inl (cI.1, k0_result_y, .inl f0_result_y)), (qo, .inl (cI.2.1, 1, .inr (.inl (outG ex go rv.toInt64))))]) (va_A [(a0, .inr (5, [.ref a0_net, .ref a0_boundary, .ref a0_rings, .ref a0_result])), (a0_result, .inr (4, [.ref a0_result_plan, .ref a0_result_x, .ref a0_result_y, .int v0_result_polygons, .long v0_result_twiceArea])), (a0_result_x, .inr (0, [.ref q0_result_x, .int (nI l0_result_x.length)])), (q0_result_x, .inl (cI.1, k0_result_x, .inl f0_result_x)), (a0_result_y, .inr (0, [.ref q0_result_y, .int (nI l0_result_y.length)])), (q0_result_y, .inl (cI.1, k0_result_y, .inl f0_result_y)), (qo, .inl (cI.2.1, 1, .inr (.inl go)))] sz)) cc cs (va_A [(a0, .inr (5, [.ref a0_net, .ref a0_boundary, .ref a0_rings, .ref a0_result])), (a0_result, .inr (4, [.ref a0_result_plan, .ref a0_result_x, .ref a0_result_y, .int v0_result_polygons, .long v0_result_twiceArea])), (a0_result_x, .inr (0, [.ref q0_result_x, .int (nI l0_result_x.length)])), (q0_result_x, .inl (cI.1, k0_result_x, .inl f0_result_x)), (a0_result_y, .inr (0, [.ref q0_result_y, .int (nI l0_result_y.length)])), (q0_result_y, .inl (cI.1, k0_result_y, .inl f0_result_y)), (qo, .inl (cI.2.1, 1, .inr (.inl go)))] sz) := by
  refine va_MetW (cc := method_6_code) (maxL := 5) (ret := some .int) (hh := [(0, 10, 13, 26)]) (by decide) rfl ?_
  intro p e s m args below meth c s₁ B hml hv
  obtain ⟨rfl, ⟨⟨hsz, hP, hK, hD0, hN⟩, hX, hStr, hZ⟩, hNc⟩ := hv
  have hx := B.exec
  have hb := B.bytes
  have hr := B.returns
  have hlocks := B.notSynchronized
  have hown : s.vm.findClass R_Law = some m.cls := findClass_of_methodNamed B.named
  have hts : ∀ w ∈ dcW, w.before [.ref a0, .int y1, .int y2, .ref qo].toArray s = true := fun w h => atoms_spec (ws := w_Law_ordinate) B.pre w (List.mem_cons_of_mem _ h)
  have htab : c.exceptionTable.toList = tableOf [(0, 10, 13, 26)] := vx_table (x := y_Law_ordinate) (y := y_Law_ordinate) (bytes := method_6_code) (maxL' := 5) (ret' := some .int) (hh := [(0, 10, 13, 26)]) B (atoms_spec (ws := w_Law_ordinate) B.pre _ List.mem_cons_self)
  subst hsz
  have hD := hD0.self (sz := s.heap.size)
  generalize hAe : va_A [(a0, .inr (5, [.ref a0_net, .ref a0_boundary, .ref a0_rings, .ref a0_result])), (a0_result, .inr (4, [.ref a0_result_plan, .ref a0_result_x, .ref a0_result_y, .int v0_result_polygons, .long v0_result_twiceArea])), (a0_result_x, .inr (0, [.ref q0_result_x, .int (nI l0_result_x.length)])), (q0_result_x, .inl (cI.1, k0_result_x, .inl f0_result_x)), (a0_result_y, .inr (0, [.ref q0_result_y, .int (nI l0_result_y.length)])), (q0_result_y, .inl (cI.1, k0_result_y, .inl f0_result_y)), (qo, .inl (cI.2.1, 1, .inr (.inl go)))] s.heap.size = A at hD hZ ⊢
  have hA : ∀ q : Nat, s.heap.size ≤ q → A q := fun q h => by rw [← hAe]; exact Or.inr h
  have hS : va_S A s.heap s.heap [] := va_S.rf
  have hl := lv_entry ([.ref a0, .int y1, .int y2, .ref qo]) (n := 5) (Nat.le_of_ble_eq_true rfl)
  rw [lg_entry_eq]
  generalize (lg_sl ([.ref a0, .int y1, .int y2, .ref qo]) ++ List.replicate (5 - (lg_sl ([.ref a0, .int y1, .int y2, .ref qo])).length) Slot.unset).toArray = ls at hl ⊢
  have hl : lv_has ls 5 [(0, .ref a0), (1, .int y1), (2, .int y2), (3, .ref qo)] := hl
  refine lv_aload_n hx hb d_Law_ordinate_0 rfl (lv_at hl 3 rfl) ?_
  refine lv_iconst (v := 0) hx hb d_Law_ordinate_1 (by decide) ?_
  refine lv_aload_n hx hb d_Law_ordinate_2 rfl (lv_at hl 0 rfl) ?_
  refine lv_iload_n hx hb d_Law_ordinate_3 rfl (lv_at hl 1 rfl) ?_
  refine lv_iload_n hx hb d_Law_ordinate_4 rfl (lv_at hl 2 rfl) ?_
  refine dc_callX (wc := [(a0, .inr (5, [.ref a0_net, .ref a0_boundary, .ref a0_rings, .ref a0_result])), (a0_result, .inr (4, [.ref a0_result_plan, .ref a0_result_x, .ref a0_result_y, .int v0_result_polygons, .long v0_result_twiceArea])), (a0_result_x, .inr (0, [.ref q0_result_x, .int (nI l0_result_x.length)])), (q0_result_x, .inl (cI.1, k0_result_x, .inl f0_result_x)), (a0_result_y, .inr (0, [.ref q0_result_y, .int (nI l0_result_y.length)])), (q0_result_y, .inl (cI.1, k0_result_y, .inl f0_result_y))]) (wr := [(qo, .inl (cI.2.1, 1, .inr (.inl go)))]) [0, 1, 2, 3, 4, 5] [6] hP hD hS hA rfl rfl rfl rfl rfl (fun hPc hDc hFc => vx_runV (As := [.int y1, .int y2]) (rest := [.int 0, .ref qo]) ⟨hx, hb, hml, hown, hts⟩ (c_Wea_ordinate l hlt dC dI cI a0 a0_net a0_boundary a0_rings a0_result a0_result_plan a0_result_x a0_result_y l0_result_x k0_result_x q0_result_x f0_result_x h0_result_x l0_result_y k0_result_y q0_result_y f0_result_y h0_result_y v0_result_polygons v0_result_twiceArea y1 y2 ex rv cc cs s.heap.size hf) (cwV 2 hts (gV wm_611 wm_612 wm_613 wm_1 wm_614) rfl rfl rfl (by decide +kernel) ⟨Nat.le_of_ble_eq_true rfl, Nat.le_of_ble_eq_true rfl⟩) (dc_preVX hK hN hX hStr hZ hS hFc hPc hDc (va_recv hK hPc (ci := 5) (q0 := 0) rfl rfl)) rfl rfl hl.1 rfl (lv_room (Nat.le_of_ble_eq_true rfl)) d_Law_ordinate_5 ⟨by show 0 + cc ≤ cc; omega, by show 0 + cs ≤ cs; omega⟩) (fun he x H locs hp hP hD hS => ?_) (fun he x H locs q9 ce hp hP hD hS hce hcv hcl => ?_)
  · subst he
    have hP : va_P (dC, dI) vwCl [(qo, .inl (cI.2.1, 1, .inr (.inl go))), (a0, .inr (5, [.ref a0_net, .ref a0_boundary, .ref a0_rings, .ref a0_result])), (a0_result, .inr (4, [.ref a0_result_plan, .ref a0_result_x, .ref a0_result_y, .int v0_result_polygons, .long v0_result_twiceArea])), (a0_result_x, .inr (0, [.ref q0_result_x, .int (nI l0_result_x.length)])), (q0_result_x, .inl (cI.1, k0_result_x, .inl f0_result_x)), (a0_result_y, .inr (0, [.ref q0_result_y, .int (nI l0_result_y.length)])), (q0_result_y, .inl (cI.1, k0_result_y, .inl f0_result_y))] H := hP
    have hD : va_D A [(qo, .inl (cI.2.1, 1, .inr (.inl go))), (a0, .inr (5, [.ref a0_net, .ref a0_boundary, .ref a0_rings, .ref a0_result])), (a0_result, .inr (4, [.ref a0_result_plan, .ref a0_result_x, .ref a0_result_y, .int v0_result_polygons, .long v0_result_twiceArea])), (a0_result_x, .inr (0, [.ref q0_result_x, .int (nI l0_result_x.length)])), (q0_result_x, .inl (cI.1, k0_result_x, .inl f0_result_x)), (a0_result_y, .inr (0, [.ref q0_result_y, .int (nI l0_result_y.length)])), (q0_result_y, .inl (cI.1, k0_result_y, .inl f0_result_y))] := hD
    refine lv_i2l hx hb d_Law_ordinate_8 rfl ?_
    refine va_last hx hb hK hP hD hS 0 1 rfl rfl (by unfold vp_in; decide) d_Law_ordinate_9 (fun H locs hP hD hS => ?_)
    have hP : va_P (dC, dI) vwCl [(qo, .inl (cI.2.1, 1, .inr (.inl (outG 0 go rv.toInt64)))), (a0, .inr (5, [.ref a0_net, .ref a0_boundary, .ref a0_rings, .ref a0_result])), (a0_result, .inr (4, [.ref a0_result_plan, .ref a0_result_x, .ref a0_result_y, .int v0_result_polygons, .long v0_result_twiceArea])), (a0_result_x, .inr (0, [.ref q0_result_x, .int (nI l0_result_x.length)])), (q0_result_x, .inl (cI.1, k0_result_x, .inl f0_result_x)), (a0_result_y, .inr (0, [.ref q0_result_y, .int (nI l0_result_y.length)])), (q0_result_y, .inl (cI.1, k0_result_y, .inl f0_result_y))] H := hP
    have hD : va_D A [(qo, .inl (cI.2.1, 1, .inr (.inl (outG 0 go rv.toInt64)))), (a0, .inr (5, [.ref a0_net, .ref a0_boundary, .ref a0_rings, .ref a0_result])), (a0_result, .inr (4, [.ref a0_result_plan, .ref a0_result_x, .ref a0_result_y, .int v0_result_polygons, .long v0_result_twiceArea])), (a0_result_x, .inr (0, [.ref q0_result_x, .int (nI l0_result_x.length)])), (q0_result_x, .inl (cI.1, k0_result_x, .inl f0_result_x)), (a0_result_y, .inr (0, [.ref q0_result_y, .int (nI l0_result_y.length)])), (q0_result_y, .inl (cI.1, k0_result_y, .inl f0_result_y))] := hD
    refine lv_goto (tgt := 17) hx hb d_Law_ordinate_10 (by decide) ?_
    refine lv_iconst (v := 0) hx hb d_Law_ordinate_17 (by decide) ?_
    refine W.widen (k := cc) (n := cs) (by show 0 + cc ≤ cc; omega) (by show 0 + cs ≤ cs; omega) ?_
    exact W.iret (v := 0) hx hb hr (fun t ht hW => ⟨⟨rfl, x, hp, by rw [ht]; exact hP.sub [1, 2, 3, 4, 5, 6, 0] rfl, hD.sub [1, 2, 3, 4, 5, 6, 0] rfl rfl⟩, hS.F ht⟩) hS.2.2 d_Law_ordinate_18
  · rcases hex with hex | hex
    · exact absurd hex he
    · subst hex
      have hP : va_P (dC, dI) vwCl [(qo, .inl (cI.2.1, 1, .inr (.inl go))), (a0, .inr (5, [.ref a0_net, .ref a0_boundary, .ref a0_rings, .ref a0_result])), (a0_result, .inr (4, [.ref a0_result_plan, .ref a0_result_x, .ref a0_result_y, .int v0_result_polygons, .long v0_result_twiceArea])), (a0_result_x, .inr (0, [.ref q0_result_x, .int (nI l0_result_x.length)])), (q0_result_x, .inl (cI.1, k0_result_x, .inl f0_result_x)), (a0_result_y, .inr (0, [.ref q0_result_y, .int (nI l0_result_y.length)])), (q0_result_y, .inl (cI.1, k0_result_y, .inl f0_result_y))] H := hP
      have hD : va_D A [(qo, .inl (cI.2.1, 1, .inr (.inl go))), (a0, .inr (5, [.ref a0_net, .ref a0_boundary, .ref a0_rings, .ref a0_result])), (a0_result, .inr (4, [.ref a0_result_plan, .ref a0_result_x, .ref a0_result_y, .int v0_result_polygons, .long v0_result_twiceArea])), (a0_result_x, .inr (0, [.ref q0_result_x, .int (nI l0_result_x.length)])), (q0_result_x, .inl (cI.1, k0_result_x, .inl f0_result_x)), (a0_result_y, .inr (0, [.ref q0_result_y, .int (nI l0_result_y.length)])), (q0_result_y, .inl (cI.1, k0_result_y, .inl f0_result_y))] := hD
      refine vx_catch (name := "java/lang/IndexOutOfBoundsException") hown (tableOf []) ⟨0, 10, 13, 26⟩ (tableOf []) (htab.trans rfl) (fun z hz => nomatch hz) (by decide) (by decide) (hts _ wm_586) (hX.at _ wx_593) hce hcv hcl ?_
      refine lv_astore (lv' := [(4, .ref q9), (0, .ref a0), (1, .int y1), (2, .int y2), (3, .ref qo)]) hx hb d_Law_ordinate_13 hl (by decide) rfl (fun ls hl => ?_)
      refine lv_iconst (v := 1) hx hb d_Law_ordinate_15 (by decide) ?_
      refine W.widen (k := cc) (n := cs) (by show 0 + cc ≤ cc; omega) (by show 0 + cs ≤ cs; omega) ?_
      exact W.iret (v := 1) hx hb hr (fun t ht hW => ⟨⟨rfl, x, hp, by rw [ht]; exact hP.sub [1, 2, 3, 4, 5, 6, 0] rfl, hD.sub [1, 2, 3, 4, 5, 6, 0] rfl rfl⟩, hS.F ht⟩) hS.2.2 d_Law_ordinate_16
