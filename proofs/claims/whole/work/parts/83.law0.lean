theorem wm_218 : (Jvm.Cond.codeWith ({ cls := "RingWeaverLaw", name := "piece", desc := "(LRingWeaver;IIIII[J)I" } : Jvm.MethodName) method_3_code (8 : Nat) (Option.some Jvm.ClassFile.FieldType.int) [((0 : Nat), (16 : Nat), (19 : Nat), (13 : Nat)), ((0 : Nat), (16 : Nat), (23 : Nat), (15 : Nat)), ((0 : Nat), (16 : Nat), (27 : Nat), (17 : Nat))]) ∈ dcW := dcW_m 270 (by decide +kernel) (by decide +kernel)
theorem wm_219 : (Jvm.Cond.classLink "RingWeaverLaw" (13 : Nat) "java/lang/IllegalArgumentException") ∈ dcW := dcW_m 271 (by decide +kernel) (by decide +kernel)
theorem wm_220 : (Jvm.Cond.classLink "RingWeaverLaw" (15 : Nat) "java/lang/IllegalStateException") ∈ dcW := dcW_m 272 (by decide +kernel) (by decide +kernel)
theorem wm_221 : (Jvm.Cond.classLink "RingWeaverLaw" (17 : Nat) "java/lang/UnsupportedOperationException") ∈ dcW := dcW_m 273 (by decide +kernel) (by decide +kernel)
theorem wm_222 : (Jvm.Cond.methodLink "RingWeaverLaw" (7 : Nat) ({ cls := "RingWeaver", name := "piece", desc := "(IIIII)I" } : Jvm.MethodName)) ∈ dcW := dcW_m 274 (by decide +kernel) (by decide +kernel)
theorem wm_223 : (Jvm.Cond.instanceMethod ({ cls := "RingWeaver", name := "piece", desc := "(IIIII)I" } : Jvm.MethodName)) ∈ dcW := dcW_m 275 (by decide +kernel) (by decide +kernel)
theorem wm_224 : (Jvm.Cond.selects "RingWeaver" ({ cls := "RingWeaver", name := "piece", desc := "(IIIII)I" } : Jvm.MethodName) ({ cls := "RingWeaver", name := "piece", desc := "(IIIII)I" } : Jvm.MethodName)) ∈ dcW := dcW_m 276 (by decide +kernel) (by decide +kernel)
theorem wm_225 : (Jvm.Cond.code ({ cls := "RingWeaver", name := "piece", desc := "(IIIII)I" } : Jvm.MethodName) prog_1_method_2_code (7 : Nat) (Option.some Jvm.ClassFile.FieldType.int)) ∈ dcW := dcW_m 277 (by decide +kernel) (by decide +kernel)
theorem wm_409 : (Jvm.Cond.codeWith ({ cls := "RingWeaverLaw", name := "overlay", desc := "(LRingWeaver;I[J)I" } : Jvm.MethodName) method_4_code (4 : Nat) (Option.some Jvm.ClassFile.FieldType.int) [((0 : Nat), (9 : Nat), (12 : Nat), (13 : Nat)), ((0 : Nat), (9 : Nat), (15 : Nat), (15 : Nat)), ((0 : Nat), (9 : Nat), (18 : Nat), (17 : Nat))]) ∈ dcW := dcW_m 461 (by decide +kernel) (by decide +kernel)
theorem wm_410 : (Jvm.Cond.methodLink "RingWeaverLaw" (19 : Nat) ({ cls := "RingWeaver", name := "overlay", desc := "(I)I" } : Jvm.MethodName)) ∈ dcW := dcW_m 462 (by decide +kernel) (by decide +kernel)
theorem wm_411 : (Jvm.Cond.instanceMethod ({ cls := "RingWeaver", name := "overlay", desc := "(I)I" } : Jvm.MethodName)) ∈ dcW := dcW_m 463 (by decide +kernel) (by decide +kernel)
theorem wm_412 : (Jvm.Cond.selects "RingWeaver" ({ cls := "RingWeaver", name := "overlay", desc := "(I)I" } : Jvm.MethodName) ({ cls := "RingWeaver", name := "overlay", desc := "(I)I" } : Jvm.MethodName)) ∈ dcW := dcW_m 464 (by decide +kernel) (by decide +kernel)
theorem wm_413 : (Jvm.Cond.code ({ cls := "RingWeaver", name := "overlay", desc := "(I)I" } : Jvm.MethodName) prog_1_method_4_code (2 : Nat) (Option.some Jvm.ClassFile.FieldType.int)) ∈ dcW := dcW_m 465 (by decide +kernel) (by decide +kernel)
theorem wm_585 : (Jvm.Cond.codeWith ({ cls := "RingWeaverLaw", name := "plan", desc := "(LRingWeaver;I[J)I" } : Jvm.MethodName) method_5_code (4 : Nat) (Option.some Jvm.ClassFile.FieldType.int) [((0 : Nat), (9 : Nat), (12 : Nat), (26 : Nat))]) ∈ dcW := dcW_m 637 (by decide +kernel) (by decide +kernel)
theorem wm_586 : (Jvm.Cond.classLink "RingWeaverLaw" (26 : Nat) "java/lang/IndexOutOfBoundsException") ∈ dcW := dcW_m 638 (by decide +kernel) (by decide +kernel)
theorem wm_587 : (Jvm.Cond.methodLink "RingWeaverLaw" (23 : Nat) ({ cls := "RingWeaver", name := "plan", desc := "(I)I" } : Jvm.MethodName)) ∈ dcW := dcW_m 639 (by decide +kernel) (by decide +kernel)
theorem wm_588 : (Jvm.Cond.instanceMethod ({ cls := "RingWeaver", name := "plan", desc := "(I)I" } : Jvm.MethodName)) ∈ dcW := dcW_m 640 (by decide +kernel) (by decide +kernel)
theorem wm_589 : (Jvm.Cond.selects "RingWeaver" ({ cls := "RingWeaver", name := "plan", desc := "(I)I" } : Jvm.MethodName) ({ cls := "RingWeaver", name := "plan", desc := "(I)I" } : Jvm.MethodName)) ∈ dcW := dcW_m 641 (by decide +kernel) (by decide +kernel)
theorem wm_590 : (Jvm.Cond.code ({ cls := "RingWeaver", name := "plan", desc := "(I)I" } : Jvm.MethodName) prog_1_method_5_code (2 : Nat) (Option.some Jvm.ClassFile.FieldType.int)) ∈ dcW := dcW_m 642 (by decide +kernel) (by decide +kernel)
theorem wm_610 : (Jvm.Cond.codeWith ({ cls := "RingWeaverLaw", name := "ordinate", desc := "(LRingWeaver;II[J)I" } : Jvm.MethodName) method_6_code (5 : Nat) (Option.some Jvm.ClassFile.FieldType.int) [((0 : Nat), (10 : Nat), (13 : Nat), (26 : Nat))]) ∈ dcW := dcW_m 662 (by decide +kernel) (by decide +kernel)
theorem wm_611 : (Jvm.Cond.methodLink "RingWeaverLaw" (28 : Nat) ({ cls := "RingWeaver", name := "ordinate", desc := "(II)I" } : Jvm.MethodName)) ∈ dcW := dcW_m 663 (by decide +kernel) (by decide +kernel)
theorem wm_612 : (Jvm.Cond.instanceMethod ({ cls := "RingWeaver", name := "ordinate", desc := "(II)I" } : Jvm.MethodName)) ∈ dcW := dcW_m 664 (by decide +kernel) (by decide +kernel)
theorem wm_613 : (Jvm.Cond.selects "RingWeaver" ({ cls := "RingWeaver", name := "ordinate", desc := "(II)I" } : Jvm.MethodName) ({ cls := "RingWeaver", name := "ordinate", desc := "(II)I" } : Jvm.MethodName)) ∈ dcW := dcW_m 665 (by decide +kernel) (by decide +kernel)
theorem wm_614 : (Jvm.Cond.code ({ cls := "RingWeaver", name := "ordinate", desc := "(II)I" } : Jvm.MethodName) prog_1_method_6_code (3 : Nat) (Option.some Jvm.ClassFile.FieldType.int)) ∈ dcW := dcW_m 666 (by decide +kernel) (by decide +kernel)
theorem wx_233 : (Jvm.Cond.castable "java/lang/IllegalArgumentException" "java/lang/IllegalArgumentException") ∈ dcXW := List.mem_filter.mpr ⟨List.mem_of_getElem? (i := 285) (by decide +kernel), rfl⟩
theorem wx_340 : (Jvm.Cond.castable "java/lang/IllegalStateException" "java/lang/IllegalStateException") ∈ dcXW := List.mem_filter.mpr ⟨List.mem_of_getElem? (i := 392) (by decide +kernel), rfl⟩
theorem wx_356 : (Jvm.Cond.castable "java/lang/UnsupportedOperationException" "java/lang/UnsupportedOperationException") ∈ dcXW := List.mem_filter.mpr ⟨List.mem_of_getElem? (i := 408) (by decide +kernel), rfl⟩
theorem wx_593 : (Jvm.Cond.castable "java/lang/IndexOutOfBoundsException" "java/lang/IndexOutOfBoundsException") ∈ dcXW := List.mem_filter.mpr ⟨List.mem_of_getElem? (i := 645) (by decide +kernel), rfl⟩
/-! calls of methods that may throw; the law's wrappers -/
theorem dc_callX {p : Program} {l : Launch} {e : Env} {R : Room} {s : State} {m : MethodId} {args : Array Value} {below : List Frame} {meth : Method} {c : Code} {H : Heap} {locs : List Loc} {cells slots : Nat} {Q : State → Prop} {D : va_G} {A0 : Nat → Prop} {X : Type} {ex : Nat} {rv : Option Value} {φ : X → Prop} {w1 : X → va_W} {ws wc wr : va_W} {mc ms pc : Nat} {ls : Array Slot} {st0 rest : List Value} {a : Array Value}
    (isC isR : List Nat) (hP : va_P D vwCl ws H) (hD : va_D A0 ws) (hS : va_S A0 s.heap H locs) (hA : ∀ q, s.heap.size ≤ q → A0 q)
    (hC : isC.map (fun i => ws[i]?) = wc.map some) (hR : isR.map (fun i => ws[i]?) = wr.map some) (hnC : va_nd isC = true) (hnR : va_nd isR = true) (hdis : isR.all (fun i => !isC.contains i) = true)
    (hr : va_P D vwCl wc H → va_D A0 wc → (∀ q, va_A wc H.size q → A0 q) → vx_Run p l e R s m args below meth c H locs cells slots mc ms (F0 m pc ls st0) rest (dc_QX ex (dc_Q D rv φ w1 (va_A wc H.size)) a) (dc_XC ex D φ w1 (va_A wc H.size)) (va_A wc H.size))
    (kk : ex = 0 → ∀ (x : X) (H1 : Heap) (locs1 : List Loc), φ x → va_P D vwCl (wr ++ w1 x) H1 → va_D A0 (wr ++ w1 x) → va_S A0 s.heap H1 locs1 → W p l e R s m args below meth c H1 locs1 (cells + mc) (slots + ms) Q (F0 m (pc + 3) ls (rv.toList ++ rest)))
    (kx : ex ≠ 0 → ∀ (x : X) (H1 : Heap) (locs1 : List Loc) (q9 : Addr) (ce : Cell), φ x → va_P D vwCl (wr ++ w1 x) H1 → va_D A0 (wr ++ w1 x) → va_S A0 s.heap H1 locs1 → H1[q9]? = some ce → ce.vm = .none → s.vm.findClass (exN ex) = some ce.cls → vx_W p l e R s m args below meth c H1 locs1 (cells + mc) (slots + ms) Q (F0 m pc ls rest) q9) :
    W p l e R s m args below meth c H locs cells slots Q (F0 m pc ls st0) := by
  have hPc := hP.sub isC (dc_pick hC)
  have hDc := hD.sub isC hnC hC
  have hFc := va_free hD hS hA isC hC
  have hdis' : ∀ i ∈ isR, i ∉ isC := fun i hi hj => by
    have := List.all_eq_true.mp hdis i hi
    simp [hj] at this
  intro T hT X'
  rcases hr hPc hDc hFc T hT X' with ⟨v, st₀, t, T', L, h0, X'', hL, e1, e2, ⟨hex, ⟨hv, x, hφ, hP1, hD1⟩, hz, hk⟩, st⟩ | ⟨q9, st₀, t, T', L, E, ce, h0, X'', hL, e1, e2, ⟨hex, hE, ⟨x, hφ, hP1, hD1⟩, hz, hk⟩, hce, hcv, hcl, st⟩
  · cases hv
    rw [h0] at hz hk
    obtain ⟨hP2, hD2⟩ := va_join hP hD isC isR hC hR hnR hdis' (H1 := T'.heap) (fun q h1 h2 => by rw [e1]; exact hk q h1 h2) hFc (by rw [e1]; exact hP1) hD1
    obtain ⟨t2, a1, b1⟩ := kk hex x T'.heap (locs ++ L) hφ hP2 hD2
      ⟨Nat.le_trans hS.1 (by rw [e1]; exact hz), fun q h1 h2 => by rw [e1, hk q (Nat.lt_of_lt_of_le h1 hS.1) (fun z => h2 (hFc q z))]; exact hS.2.1 q h1 h2, fun q hq => by
        rcases List.mem_append.mp hq with h | h
        · exact hS.2.2 q h
        · exact hFc _ (hL q h)⟩ T' rfl X''
    exact ⟨t2, st t2 a1, b1⟩
  · subst hE
    rw [h0] at hz hk
    obtain ⟨hP2, hD2⟩ := va_join hP hD isC isR hC hR hnR hdis' (H1 := T'.heap) (fun q h1 h2 => by rw [e1]; exact hk q h1 h2) hFc (by rw [e1]; exact hP1) hD1
    obtain ⟨t2, a1, b1⟩ := kx hex x T'.heap (locs ++ L) q9 ce hφ hP2 hD2
      ⟨Nat.le_trans hS.1 (by rw [e1]; exact hz), fun q h1 h2 => by rw [e1, hk q (Nat.lt_of_lt_of_le h1 hS.1) (fun z => h2 (hFc q z))]; exact hS.2.1 q h1 h2, fun q hq => by
        rcases List.mem_append.mp hq with h | h
        · exact hS.2.2 q h
        · exact hFc _ (hL q h)⟩ (by rw [e1]; exact hce) hcv hcl T' rfl X''
    exact ⟨t2, st.trans a1, b1⟩
theorem dcZ.to {A B : Nat → Prop} {s U : State} {H : Heap} {locs : List Loc} (hZ : dcZ A s s.heap) (hS : va_S A s.heap H locs) (hF : ∀ q, B q → A q) (hW : s.WarmedH U.vm) (hU : U.heap = H) : dcZ B U U.heap := by
  rw [hU]
  exact ⟨vx_Zq.moved hW.alike (vx_Zq.narrow (vx_Zq.kept hZ.1 hS.2.1) hF), vx_Zq.moved hW.alike (vx_Zq.narrow (vx_Zq.kept hZ.2 hS.2.1) hF)⟩
theorem dc_preVX {D : va_G} {tys : List (ClassId × FieldType)} {wc : va_W} {H : Heap} {s : State} {A0 : Nat → Prop} {locs : List Loc} {C : String} {b : Addr} {As : List Value} (hK : va_K D vwCl tys s) (hN : dcN s) (hX : dcX s) (hStr : dcStr s) (hZ : dcZ A0 s s.heap) (hS : va_S A0 s.heap H locs) (hF : ∀ q, va_A wc H.size q → A0 q) (hP : va_P D vwCl wc H) (hD : va_D A0 wc) (hr : ∃ cell : Cell, H[b]? = some cell ∧ cell.vm.isStatics = false ∧ s.vm.findClass C = some cell.cls) : PreV s H C b (dc_PreX D tys wc H.size (.ref b :: As)) As :=
  ⟨dc_blindX, hr, fun U hU hW => ⟨rfl, ⟨by rw [hU], by rw [hU]; exact hP, va_K.moved hW.alike hK, hD.weaken (fun _ _ _ _ => trivial), hN.warm hW⟩, hX.warm hW, hStr.warm hW, hZ.to hS hF hW hU⟩⟩
def dcNc (U : State) : Prop := va_Nc "java/lang/IllegalStateException" "java/lang/IllegalArgumentException" U ∧ va_Nc "java/lang/UnsupportedOperationException" "java/lang/IllegalArgumentException" U ∧ va_Nc "java/lang/UnsupportedOperationException" "java/lang/IllegalStateException" U
theorem dcNc.moved {u U : State} (hvm : u.vm.Alike U.vm) (h : dcNc u) : dcNc U := ⟨va_Nc.moved hvm h.1, va_Nc.moved hvm h.2.1, va_Nc.moved hvm h.2.2⟩
def dc_PreL (D : va_G) (tys : List (ClassId × FieldType)) (ws : va_W) (sz : Nat) (av : List Value) : Array Value → State → Prop := va_Pc av (fun U => ((U.heap.size = sz ∧ va_P D vwCl ws U.heap ∧ va_K D vwCl tys U ∧ va_D (fun _ => True) ws ∧ dcN U) ∧ dcX U ∧ dcStr U ∧ dcZ (va_A ws sz) U U.heap) ∧ dcNc U)
theorem dc_blindL {D : va_G} {tys : List (ClassId × FieldType)} {ws : va_W} {sz : Nat} {av : List Value} : FrameBlind (dc_PreL D tys ws sz av) := fun a U g mk q => by
  obtain ⟨q0, q1, q2⟩ := q
  have h := dc_blindX a U g mk (show dc_PreX D tys ws sz av a U from ⟨q0, q1⟩)
  exact ⟨h.1, h.2, dcNc.moved (u := U) (U := U.calling g mk a) (Vm.Alike.refl U.vm) q2⟩
theorem dc_preSL {D : va_G} {tys : List (ClassId × FieldType)} {wc : va_W} {H : Heap} {s : State} {A0 : Nat → Prop} {locs : List Loc} {As : List Value} (hK : va_K D vwCl tys s) (hN : dcN s) (hX : dcX s) (hStr : dcStr s) (hZ : dcZ A0 s s.heap) (hNc : dcNc s) (hS : va_S A0 s.heap H locs) (hF : ∀ q, va_A wc H.size q → A0 q) (hP : va_P D vwCl wc H) (hD : va_D A0 wc) : PreS s H (dc_PreL D tys wc H.size As) As :=
  ⟨dc_blindL, fun U hU hW => ⟨rfl, ⟨⟨by rw [hU], by rw [hU]; exact hP, va_K.moved hW.alike hK, hD.weaken (fun _ _ _ _ => trivial), hN.warm hW⟩, hX.warm hW, hStr.warm hW, hZ.to hS hF hW hU⟩, hNc.moved hW.alike⟩⟩
def outG (ex : Nat) (g : Nat → Int64) (v : Int64) : Nat → Int64 := match ex with
  | 0 => vp_updL g 0 v
  | _ + 1 => g
def exC : Nat → Int32
  | 0 => 0
  | 1 => 1
  | 2 => 2
  | 3 => 3
  | _ => 1
