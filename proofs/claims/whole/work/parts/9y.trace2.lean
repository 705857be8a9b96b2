/-! half B: trace of the class, its loops -/
def cap5 (a b c d e : Nat) (k1 k2 k3 k4 k5 : Nat) : Prop := capO a k1 4096 ∧ capO b k2 4096 ∧ capO c k3 4096 ∧ capO d k4 4096 ∧ capO e k5 4096
theorem wy_mk0 {w : Int32} {n k : Nat} {ax ay bx b_y mk : Nat → Int32} (h : mk k = 0) : wyM w n ax ay bx b_y mk k = 0 := by
  unfold wyM wOf
  rw [h, Int32.xor_zero, if_pos rfl]
theorem capO_0 {l k B : Nat} (h : capO l k B) : capO 0 k B := ⟨Nat.zero_le _, h.2⟩
/-- what trace gives -/
def traceR (n P : Nat) (W : Nat → Int32) (fr to nx pw : Nat → Nat) (kf kt kn kw ka : Nat) (r : Option (Nat × Nat × List Int32 × Nat × List Int32 × Nat × List Int32 × Nat × List Int32 × Nat × List Int32 × Nat)) : Prop :=
  ∃ c d kf' kt' kn' kw' ka', r = some (c, d, tab (wn W n) (fun i => nI (stW W fr to (pw i))), kf', tab (wn W n) (fun i => nI (enW W fr to (pw i))), kt', tab (wn W n) (fun i => nI (wn W (nx (pw i)))), kn', tab P (fun p => lastW (fun i => stW W fr to (pw i)) p (wn W n)), kw', tab (wn W n) (fun i => lastW (fun i => stW W fr to (pw i)) (stW W fr to (pw i)) i), ka') ∧ cap5 (wn W n) (wn W n) (wn W n) P (wn W n) kf' kt' kn' kw' ka' ∧ c + (kf + kt + kn + kw + ka) ≤ kf' + kt' + kn' + kw' + ka' ∧ d + 2 * (kf + kt + kn + kw + ka) = 2 * (kf' + kt' + kn' + kw' + ka')
theorem traceR_ac {n P : Nat} {W : Nat → Int32} {fr to nx pw : Nat → Nat} {kf kt kn kw ka kf1 kt1 kn1 kw1 ka1 c d : Nat} {r : Option (Nat × Nat × List Int32 × Nat × List Int32 × Nat × List Int32 × Nat × List Int32 × Nat × List Int32 × Nat)} (h : traceR n P W fr to nx pw kf1 kt1 kn1 kw1 ka1 r) (h1 : c + (kf + kt + kn + kw + ka) ≤ kf1 + kt1 + kn1 + kw1 + ka1) (h2 : d + 2 * (kf + kt + kn + kw + ka) = 2 * (kf1 + kt1 + kn1 + kw1 + ka1)) : traceR n P W fr to nx pw kf kt kn kw ka (ac c d r) := by
  obtain ⟨c', d', kf', kt', kn', kw', ka', e, cp, q1, q2⟩ := h
  refine ⟨c + c', d + d', kf', kt', kn', kw', ka', ?_, cp, by omega, by omega⟩
  rw [e]; rfl
theorem bnd_trace {n P F : Nat} {ax ay bx b_y mk X Y O W : Nat → Int32} {fr to nx pw : Nat → Nat} {w : Int32} (I : netI n P ax ay bx b_y mk X Y O fr to) (hn : n ≤ 2000) (hP : P ≤ 2 * n) (hF : 5000 ≤ F) (hw : w04 w) (hW : ∀ k, k < n → W k = wyM w n ax ay bx b_y mk k) (NX : NXs n ax ay bx b_y W nx) (hpw : isPw n W pw) {lf lt ln lw la : List Int32} {kf kt kn kw ka : Nat} (cp : cap5 lf.length lt.length ln.length lw.length la.length kf kt kn kw ka) : traceR n P W fr to nx pw kf kt kn kw ka (f_Bnd_trace F (tab P O) (tab n mk) (tab P X) (tab P Y) (tab n (fun k => nI (fr k))) (tab n (fun k => nI (to k))) w lf kf lt kt ln kn lw kw la ka) := by
  have hm := wn_le (W := W) (k := n)
  -- third loop
  have L3 : ∀ c kf kt kn kw ka, c ≤ wn W n → cap5 (wn W n) (wn W n) c P (wn W n) kf kt kn kw ka → traceR n P W fr to nx pw kf kt kn kw ka (lp (fun _ _ _ _ _ _ _ _ _ _ _ => none) (b_Bnd_trace_95 F (tab P O) (tab n mk) (tab P X) (tab P Y) (tab n (fun k => nI (fr k))) (tab n (fun k => nI (to k))) w) F (nI c) (tab (wn W n) (fun i => nI (stW W fr to (pw i)))) kf (tab (wn W n) (fun i => nI (enW W fr to (pw i)))) kt (tab c (fun i => nI (wn W (nx (pw i))))) kn (tab P (fun p => lastW (fun i => stW W fr to (pw i)) p (wn W n))) kw (tab (wn W n) (fun i => lastW (fun i => stW W fr to (pw i)) (stW W fr to (pw i)) i)) ka) := by
    intro c kf kt kn kw ka hc cp
    have key := lp_inv (fun _ _ _ _ _ _ _ _ _ _ _ => none) (b_Bnd_trace_95 F (tab P O) (tab n mk) (tab P X) (tab P Y) (tab n (fun k => nI (fr k))) (tab n (fun k => nI (to k))) w) (fun c : Nat => wn W n - c) (fun f c => ∀ kf kt kn kw ka, c ≤ wn W n → cap5 (wn W n) (wn W n) c P (wn W n) kf kt kn kw ka → traceR n P W fr to nx pw kf kt kn kw ka (f (nI c) (tab (wn W n) (fun i => nI (stW W fr to (pw i)))) kf (tab (wn W n) (fun i => nI (enW W fr to (pw i)))) kt (tab c (fun i => nI (wn W (nx (pw i))))) kn (tab P (fun p => lastW (fun i => stW W fr to (pw i)) p (wn W n))) kw (tab (wn W n) (fun i => lastW (fun i => stW W fr to (pw i)) (stW W fr to (pw i)) i)) ka)) (fun c f hr => by
      intro kf kt kn kw ka hc cp
      unfold b_Bnd_trace_95 f_Bnd_ways b_Bnd_ways_0
      rw [tab_len]
      simp only [ob1]
      by_cases hl : wn W n ≤ c
      · have : c = wn W n := by omega
        subst this
        rw [if_pos ((nIle (by omega) (by omega)).mpr hl)]
        exact ⟨0, 0, kf, kt, kn, kw, ka, rfl, cp, by omega, by omega⟩
      · rw [if_neg (fun z => hl ((nIle (by omega) (by omega)).mp z)), bnd_behind I hn hP hF NX hpw (by omega)]
        simp only [ob1]
        obtain ⟨cp1, cp2, cp3, cp4, cp5⟩ := cp
        obtain ⟨c1, s1, k1, e1, a1, b1, d1⟩ := ra_cap cp3 (by omega) (by omega)
        rw [tab_len, e1]
        simp only [ob3]
        rw [nI_1]
        have ta : tab c (fun i => nI (wn W (nx (pw i)))) ++ [nI (wn W (nx (pw c)))] = tab (c + 1) (fun i => nI (wn W (nx (pw i)))) := by
          rw [tab_add]
          apply tab_ext
          intro i hi
          by_cases q : i = c
          · rw [q]; exact if_pos rfl
          · exact if_neg q
        rw [ta]
        exact traceR_ac (hr (c + 1) (by omega) kf kt k1 kw ka (by omega) ⟨cp1, cp2, d1, cp4, cp5⟩) (by omega) (by omega)) F c (by omega)
    exact key kf kt kn kw ka hc cp
  -- second loop
  have L2 : ∀ c kf kt kn kw ka, c ≤ n → cap5 (wn W c) (wn W c) 0 P (wn W c) kf kt kn kw ka → traceR n P W fr to nx pw kf kt kn kw ka (lp (fun _ _ _ _ _ _ _ _ _ _ _ => none) (b_Bnd_trace_61 F (tab P O) (tab n mk) (tab P X) (tab P Y) (tab n (fun k => nI (fr k))) (tab n (fun k => nI (to k))) w) F (nI c) (tab (wn W c) (fun i => nI (stW W fr to (pw i)))) kf (tab (wn W c) (fun i => nI (enW W fr to (pw i)))) kt [] kn (tab P (fun p => lastW (fun i => stW W fr to (pw i)) p (wn W c))) kw (tab (wn W c) (fun i => lastW (fun i => stW W fr to (pw i)) (stW W fr to (pw i)) i)) ka) := by
    intro c kf kt kn kw ka hc cp
    have key := lp_inv (fun _ _ _ _ _ _ _ _ _ _ _ => none) (b_Bnd_trace_61 F (tab P O) (tab n mk) (tab P X) (tab P Y) (tab n (fun k => nI (fr k))) (tab n (fun k => nI (to k))) w) (fun c : Nat => n - c) (fun f c => ∀ kf kt kn kw ka, c ≤ n → cap5 (wn W c) (wn W c) 0 P (wn W c) kf kt kn kw ka → traceR n P W fr to nx pw kf kt kn kw ka (f (nI c) (tab (wn W c) (fun i => nI (stW W fr to (pw i)))) kf (tab (wn W c) (fun i => nI (enW W fr to (pw i)))) kt [] kn (tab P (fun p => lastW (fun i => stW W fr to (pw i)) p (wn W c))) kw (tab (wn W c) (fun i => lastW (fun i => stW W fr to (pw i)) (stW W fr to (pw i)) i)) ka)) (fun c f hr => by
      intro kf kt kn kw ka hc cp
      have hmc := wn_le (W := W) (k := c)
      unfold b_Bnd_trace_61
      rw [net_pieces, tab_len]
      simp only [ob1]
      by_cases hl : n ≤ c
      · have : c = n := by omega
        subst this
        rw [if_pos ((nIle (by omega) (by omega)).mpr hl)]
        exact L3 0 kf kt kn kw ka (Nat.zero_le _) cp
      · rw [if_neg (fun z => hl ((nIle (by omega) (by omega)).mp z)), rg_tab (show c < n by omega) (by omega)]
        by_cases c1 : mk c = 0
        · rw [if_pos c1]
          unfold b_Bnd_trace_87
          have w0 : W c = 0 := by rw [hW c (by omega)]; exact wy_mk0 c1
          rw [nI_1]
          have := hr (c + 1) (by omega) kf kt kn kw ka (by omega)
          rw [wn_s0 w0] at this
          exact this cp
        · rw [if_neg c1]
          obtain ⟨cp1, cp2, cp3, cp4, cp5⟩ := cp
          obtain ⟨c', d', m', kf', kt', ka', wf', wt', H', A', e, hcase, ⟨q1, q2, q3⟩, q4, q5⟩ := bnd_addIf I hn hP hF hw (show c < n by omega) (show wn W c < 4096 by omega) (fun i => stW W fr to (pw i)) (fun i => enW W fr to (pw i)) (fun p => lastW (fun i => stW W fr to (pw i)) p (wn W c)) (fun i => lastW (fun i => stW W fr to (pw i)) (stW W fr to (pw i)) i) cp1 cp2 cp5
          rw [e]
          simp only [ob9]
          unfold b_Bnd_trace_87
          rw [nI_1]
          have hr' := hr (c + 1) (by omega) kf' kt' kn kw ka' (by omega)
          obtain ⟨eS, eE⟩ := stW_S (fr := fr) (to := to) hW (show c < n by omega)
          rcases hcase with ⟨w0, g1, g2, g3, g4, g5⟩ | ⟨w0, g1, g2, g3, g4, g5⟩
          · rw [← hW c (by omega)] at w0
            rw [wn_s0 w0] at hr'
            subst g1 g2 g3 g4 g5
            exact traceR_ac (hr' ⟨q1, q2, cp3, cp4, q3⟩) (by omega) (by omega)
          · rw [← hW c (by omega)] at w0
            rw [wn_s1 w0] at hr'
            have pc : pw (wn W c) = c := pw_wn hpw (by omega) w0
            rw [eS] at g2 g4 g5
            rw [eE] at g3
            have f2 : wf' = fun i => stW W fr to (pw i) := by
              rw [g2]; funext i
              by_cases q : i = wn W c
              · rw [q, updN_s, pc]
              · rw [updN_n q]
            have f3 : wt' = fun i => enW W fr to (pw i) := by
              rw [g3]; funext i
              by_cases q : i = wn W c
              · rw [q, updN_s, pc]
              · rw [updN_n q]
            have f4 : H' = fun p => lastW (fun i => stW W fr to (pw i)) p (wn W c + 1) := by
              rw [g4]; funext p
              show (if p = stW W fr to c then _ else _) = (if stW W fr to (pw (wn W c)) = p then _ else _)
              rw [pc]
              by_cases q : p = stW W fr to c
              · rw [if_pos q, if_pos q.symm]
              · rw [if_neg q, if_neg (fun z => q z.symm)]
            have f5 : A' = fun i => lastW (fun i => stW W fr to (pw i)) (stW W fr to (pw i)) i := by
              rw [g5]; funext i
              show (if i = wn W c then _ else _) = _
              by_cases q : i = wn W c
              · rw [if_pos q, q, pc]
              · rw [if_neg q]
            rw [g1] at q1 q2 q3 ⊢
            rw [f2, f3, f4, f5]
            exact traceR_ac (hr' ⟨q1, q2, cp3, cp4, q3⟩) (by omega) (by omega)) F c (by omega)
    exact key kf kt kn kw ka hc cp
  -- first loop
  obtain ⟨cp1, cp2, cp3, cp4, cp5⟩ := cp
  unfold f_Bnd_trace b_Bnd_trace_0
  have key := lp_inv (fun _ _ _ _ _ _ _ _ _ _ _ => none) (b_Bnd_trace_37 F (tab P O) (tab n mk) (tab P X) (tab P Y) (tab n (fun k => nI (fr k))) (tab n (fun k => nI (to k))) w) (fun c : Nat => P - c) (fun f c => ∀ kw, c ≤ P → capO c kw 4096 → traceR n P W fr to nx pw kf kt kn kw ka (f (nI c) [] kf [] kt [] kn (tab c (fun _ => -1)) kw [] ka)) (fun c f hr => by
    intro kw hc cw
    unfold b_Bnd_trace_37 f_Net_places b_Net_places_0
    rw [tab_len]
    simp only [ob1]
    by_cases hl : P ≤ c
    · have : c = P := by omega
      subst this
      rw [if_pos ((nIle (by omega) (by omega)).mpr hl)]
      have l2 := L2 0 kf kt kn kw ka (Nat.zero_le _) ⟨capO_0 cp1, capO_0 cp2, capO_0 cp3, cw, capO_0 cp5⟩
      exact l2
    · rw [if_neg (fun z => hl ((nIle (by omega) (by omega)).mp z))]
      obtain ⟨c1, s1, k1, e1, a1, b1, d1⟩ := ra_cap cw (by omega) (by omega)
      rw [tab_len, e1]
      simp only [ob3]
      rw [nI_1]
      have ta : tab c (fun _ => (-1 : Int32)) ++ [-1] = tab (c + 1) (fun _ => -1) := by
        rw [tab_add]
        apply tab_ext
        intro i hi
        by_cases q : i = c
        · rw [q]; exact if_pos rfl
        · exact if_neg q
      rw [ta]
      exact traceR_ac (hr (c + 1) (by omega) k1 (by omega) d1) (by omega) (by omega)) F 0 (by omega)
  exact key kw (Nat.zero_le _) (capO_0 cp4)
