/-! half B: the law's loop: overlay, and all -/
theorem law_over {F L i K : Nat} {xs : Nat → Int32} {g : Int32 → List Int32 → Nat → List Int32 → Nat → List Int32 → Nat → List Int32 → Nat → List Int32 → Nat → List Int32 → Nat → List Int32 → Nat → List Int32 → Nat → List Int32 → Nat → List Int32 → Nat → List Int32 → Nat → List Int32 → Nat → List Int32 → Nat → List Int32 → Nat → List Int32 → Nat → List Int32 → Nat → List Int32 → Nat → List Int32 → Nat → List Int32 → Nat → List Int32 → Nat → List Int32 → Nat → List Int32 → Nat → Int32 → Int64 → Int32 → Int32 → Int32 → Int32 → Int32 → Int32 → Int64 → Int32 → Int32 → Int32 → (Nat → Int32) → (Nat → Int32) → (Nat → Int32) → (Nat → Int32) → (Nat → Int32) → (Nat → Int32) → (Nat → Int32) → (Nat → Int64) → (Nat → Int32) → (Nat → Int32) → (Nat → Int32) → (Nat → Int32) → (Nat → Int32) → (Nat → Int32) → (Nat → Int32) → (Nat → Int32) → (Nat → Int32) → (Nat → Int32) → (Nat → Int64) → Option (Nat × Nat)} {lod lnx lny lnm lnf lnt lpl lrX lrY lbf lbt lbn lbw lba lrx lry lrs lro lrw lrq lrl lrg : List Int32} {kod knx kny knm knf knt kpl krX krY kbf kbt kbn kbw kba krx kry krs kro krw krq krl krg : Nat} {pol sh thr pcn pla cor pol2 len rgs plc : Int32} {tw tw2 : Int64} {ax bx b_y ay mk way gon siz own fir frx fry fpl fxs fys wX wY : Nat → Int32} {are f3 : Nat → Int64} (hF : 5000 ≤ F) (hL : L ≤ 3072) (ht : 6 * i + 5 < L) (h : LI i K lod lnx lny lnm lnf lnt lpl lrX lrY lbf lbt lbn lbw lba lrx lry lrs lro lrw lrq lrl lrg kod knx kny knm knf knt kpl krX krY kbf kbt kbn kbw kba krx kry krs kro krw krq krl krg pol sh thr pcn pla cor pol2 len rgs plc tw tw2 ax bx b_y ay mk way gon siz own fir frx fry fpl fxs fys wX wY are f3) (ih : ∀ {K' : Nat} {lod lnx lny lnm lnf lnt lpl lrX lrY lbf lbt lbn lbw lba lrx lry lrs lro lrw lrq lrl lrg : List Int32} {kod knx kny knm knf knt kpl krX krY kbf kbt kbn kbw kba krx kry krs kro krw krq krl krg : Nat} {pol sh thr pcn pla cor pol2 len rgs plc : Int32} {tw tw2 : Int64} {ax bx b_y ay mk way gon siz own fir frx fry fpl fxs fys wX wY : Nat → Int32} {are f3 : Nat → Int64}, LI (i + 1) K' lod lnx lny lnm lnf lnt lpl lrX lrY lbf lbt lbn lbw lba lrx lry lrs lro lrw lrq lrl lrg kod knx kny knm knf knt kpl krX krY kbf kbt kbn kbw kba krx kry krs kro krw krq krl krg pol sh thr pcn pla cor pol2 len rgs plc tw tw2 ax bx b_y ay mk way gon siz own fir frx fry fpl fxs fys wX wY are f3 → good (i + 1) K' (g (nI (6 * i + 6)) lod kod lnx knx lny kny lnm knm lnf knf lnt knt lpl kpl lrX krX lrY krY lbf kbf lbt kbt lbn kbn lbw kbw lba kba lrx krx lry kry lrs krs lro kro lrw krw lrq krq lrl krl lrg krg pol tw sh thr pcn pla cor pol2 tw2 len rgs plc ax bx b_y ay mk way gon are siz own fir frx fry fpl fxs fys wX wY f3)) : good i K (b_Law_law_201 F L xs 2049 2049 2049 2049 2048 2048 2048 1024 1024 1024 1024 2052 2052 4096 4096 4096 2052 2052 g (nI (6 * i)) lod kod lnx knx lny kny lnm knm lnf knf lnt knt lpl kpl lrX krX lrY krY lbf kbf lbt kbt lbn kbn lbw kbw lba kba lrx krx lry kry lrs krs lro kro lrw krw lrq krq lrl krl lrg krg pol tw sh thr pcn pla cor pol2 tw2 len rgs plc ax bx b_y ay mk way gon are siz own fir frx fry fpl fxs fys wX wY f3) := by
  obtain ⟨n, P, X, Y, O, fr, to, a, b, ⟨e1, e2, e3, e4, e5, e6⟩, e7, I, ⟨hn, hP⟩, ⟨e8, e9, e10, e11, e12, ha, hb, e13, e14⟩, ⟨c1, c2, c3, c4, c5, c6⟩, ⟨c7, c8, c9⟩, cO, eK⟩ := h
  subst e1 e2 e3 e4 e5 e6 e7 e8 e9 e10 e11 e12 e13 e14 eK
  have p2 : nI (6 * i) + 2 = nI (6 * i + 2) := nI_ad (6 * i) 2
  have p3 : nI (6 * i) + 3 = nI (6 * i + 3) := nI_ad (6 * i) 3
  have p4 : nI (6 * i) + 4 = nI (6 * i + 4) := nI_ad (6 * i) 4
  have p5 : nI (6 * i) + 5 = nI (6 * i + 5) := nI_ad (6 * i) 5
  have p6 : nI (6 * i) + 6 = nI (6 * i + 6) := nI_ad (6 * i) 6
  obtain ⟨cobf, cobt, cobn, cobw, coba, corx, cory, cors, coro, corw, corq, corl, corg⟩ := cO
  obtain ⟨c, s, ex, rv, rv2, a', b', PL, XS, YS, kpl', krX', krY', mbf, mbt, mbn, mbw, mba, mrx, mry, mrs, mro, mrw, mrq, mrl, mrg, jbf, jbt, jbn, jbw, jba, jrx, jry, jrs, jro, jrw, jrq, jrl, jrg, pol', tw', sh', q1, q2, q3, q4, q5, q6, q7, q8, q9, q10, q11, q12, q13, eW, eM, hres, ⟨ha', hb'⟩, ⟨d1, d2, d3⟩, dO, x1, x2⟩ := step_overlay (F := F) I (by omega) hP hF (xs (6 * i + 1)) (lpl := tab a fpl) (lrX := tab b fxs) (lrY := tab b fys) (by rw [tab_len]; exact c7) (by rw [tab_len]; exact c8) (by rw [tab_len]; exact c9) cobf cobt cobn cobw coba corx cory cors coro corw corq corl corg pol2 tw2 sh thr (nI a) (nI b) pol2 tw2 len rgs plc way gon are siz own fir frx fry fpl fxs fys wX wY
  have hex : ex = 0 ∨ ex = 1 ∨ ex = 2 ∨ ex = 3 := by
    rcases hres with z | z | z
    · exact Or.inl z.1
    · exact Or.inr (Or.inl z)
    · exact Or.inr (Or.inr (Or.inl z))
  have hfin : (ex = 0 ∧ rv = rv2) ∨ ex = 1 ∨ ex = 2 ∨ ex = 3 ∨ ex = 4 := by
    rcases hres with z | z | z
    · exact Or.inl z
    · exact Or.inr (Or.inl z)
    · exact Or.inr (Or.inr (Or.inl z))
  unfold b_Law_law_201
  rw [nI_1, ixc (show 6 * i + 1 < L by omega) (by omega), if_neg (ixm (show 6 * i + 1 < L by omega) (by omega)), eW]
  change good i _ (if ex = 0 ∨ ex = 1 ∨ ex = 2 ∨ ex = 3 then ac0 c s _ else none)
  rw [if_pos hex]
  refine good_ac0 (K' := kod + knx + kny + knm + knf + knt + kpl' + krX' + krY' + jbf + jbt + jbn + jbw + jba + jrx + jry + jrs + jro + jrw + jrq + jrl + jrg) ?_ (by omega) (by omega) (by omega)
  rw [if_neg (ixm (show 6 * i + 1 < L by omega) (by omega)), eM]
  change good (i + 1) _ (ob1 (f_Mod_thrown (exC ex)) (fun q => (if q = exC ex then (if exC ex = 0 then (if (0 : Int32) < 0 ∨ 1 ≤ (0 : Int32).toNatClampNeg then none else if lg_cmp ((outG ex f3 rv.toInt64) (0 : Int32).toNatClampNeg) rv2.toInt64 = 0 then _ else none) else _) else none)))
  rw [law_fin hfin]
  unfold b_Law_law_254 b_Law_law_420
  rw [p6]
  exact ih ⟨n, P, X, Y, O, fr, to, a', b', ⟨rfl, rfl, rfl, rfl, rfl, rfl⟩, rfl, I, ⟨by omega, hP⟩, ⟨rfl, rfl, rfl, rfl, rfl, ha', hb', rfl, rfl⟩, ⟨c1, c2, c3, c4, c5, c6⟩, ⟨d1, d2, d3⟩, dO, rfl⟩
theorem capK {l k : Nat} (h : capO l k 4096) : k ≤ 8192 := by have := h.2.2; omega
theorem law_cond {L t : Nat} (hL : L ≤ 3072) (ht : t ≤ 4000) : (Int32.ofNat L - 6 < nI t) ↔ (L : Int) - 6 < t := by
  have e : (nI L - 6).toInt = (L : Int) - 6 := by
    rw [Int32.toInt_sub, nI_toInt (by omega), show (6 : Int32).toInt = 6 by decide]
    exact Int.bmod_eq_of_le (by omega) (by omega)
  rw [i32lt, show Int32.ofNat L = nI L from rfl, e, nI_toInt (by omega)]
theorem law_loop {F L : Nat} {xs : Nat → Int32} (hF : 5000 ≤ F) (hL : L ≤ 3072) : ∀ d i K Fl {lod lnx lny lnm lnf lnt lpl lrX lrY lbf lbt lbn lbw lba lrx lry lrs lro lrw lrq lrl lrg : List Int32} {kod knx kny knm knf knt kpl krX krY kbf kbt kbn kbw kba krx kry krs kro krw krq krl krg : Nat} {pol sh thr pcn pla cor pol2 len rgs plc : Int32} {tw tw2 : Int64} {ax bx b_y ay mk way gon siz own fir frx fry fpl fxs fys wX wY : Nat → Int32} {are f3 : Nat → Int64}, 512 - i ≤ d → i ≤ 512 → d < Fl → LI i K lod lnx lny lnm lnf lnt lpl lrX lrY lbf lbt lbn lbw lba lrx lry lrs lro lrw lrq lrl lrg kod knx kny knm knf knt kpl krX krY kbf kbt kbn kbw kba krx kry krs kro krw krq krl krg pol sh thr pcn pla cor pol2 len rgs plc tw tw2 ax bx b_y ay mk way gon siz own fir frx fry fpl fxs fys wX wY are f3 → good i K (lp (fun _ _ _ _ _ _ _ _ _ _ _ _ _ _ _ _ _ _ _ _ _ _ _ _ _ _ _ _ _ _ _ _ _ _ _ _ _ _ _ _ _ _ _ _ _ _ _ _ _ _ _ _ _ _ _ _ _ _ _ _ _ _ _ _ _ _ _ _ _ _ _ _ _ _ _ _ => none) (b_Law_law_23 F L xs 2049 2049 2049 2049 2048 2048 2048 1024 1024 1024 1024 2052 2052 4096 4096 4096 2052 2052) Fl (nI (6 * i)) lod kod lnx knx lny kny lnm knm lnf knf lnt knt lpl kpl lrX krX lrY krY lbf kbf lbt kbt lbn kbn lbw kbw lba kba lrx krx lry kry lrs krs lro kro lrw krw lrq krq lrl krl lrg krg pol tw sh thr pcn pla cor pol2 tw2 len rgs plc ax bx b_y ay mk way gon are siz own fir frx fry fpl fxs fys wX wY f3) := by
  have u1 : ∀ (γ : Type) (zz : γ) (bd : γ → γ) (f : Nat), lp zz bd (f + 1) = bd (lp zz bd f) := fun _ _ _ _ => rfl
  intro d
  induction d with
  | zero =>
    intro i K Fl lod lnx lny lnm lnf lnt lpl lrX lrY lbf lbt lbn lbw lba lrx lry lrs lro lrw lrq lrl lrg kod knx kny knm knf knt kpl krX krY kbf kbt kbn kbw kba krx kry krs kro krw krq krl krg pol sh thr pcn pla cor pol2 len rgs plc tw tw2 ax bx b_y ay mk way gon siz own fir frx fry fpl fxs fys wX wY are f3 hd hi hFl h
    obtain ⟨Fl', rfl⟩ : ∃ f, Fl = f + 1 := ⟨Fl - 1, by omega⟩
    rw [u1]
    unfold b_Law_law_23
    rw [if_pos ((law_cond hL (by omega)).mpr (by omega))]
    obtain ⟨n, P, X, Y, O, fr, to, a, b, _, _, _, _, _, ⟨c1, c2, c3, c4, c5, c6⟩, ⟨c7, c8, c9⟩, ⟨cobf, cobt, cobn, cobw, coba, corx, cory, cors, coro, corw, corq, corl, corg⟩, eK⟩ := h
    have := capK c1; have := capK c2; have := capK c3; have := capK c4; have := capK c5; have := capK c6; have := capK c7; have := capK c8; have := capK c9; have := capK cobf; have := capK cobt; have := capK cobn; have := capK cobw; have := capK coba; have := capK corx; have := capK cory; have := capK cors; have := capK coro; have := capK corw; have := capK corq; have := capK corl; have := capK corg
    exact ⟨0, 0, rfl, by omega, by omega⟩
  | succ d ihd =>
    intro i K Fl lod lnx lny lnm lnf lnt lpl lrX lrY lbf lbt lbn lbw lba lrx lry lrs lro lrw lrq lrl lrg kod knx kny knm knf knt kpl krX krY kbf kbt kbn kbw kba krx kry krs kro krw krq krl krg pol sh thr pcn pla cor pol2 len rgs plc tw tw2 ax bx b_y ay mk way gon siz own fir frx fry fpl fxs fys wX wY are f3 hd hi hFl h
    by_cases cond : (L : Int) - 6 < (6 * i : Nat)
    · obtain ⟨Fl', rfl⟩ : ∃ f, Fl = f + 1 := ⟨Fl - 1, by omega⟩
      rw [u1]
      unfold b_Law_law_23
      rw [if_pos ((law_cond hL (by omega)).mpr cond)]
      obtain ⟨n, P, X, Y, O, fr, to, a, b, _, _, _, _, _, ⟨c1, c2, c3, c4, c5, c6⟩, ⟨c7, c8, c9⟩, ⟨cobf, cobt, cobn, cobw, coba, corx, cory, cors, coro, corw, corq, corl, corg⟩, eK⟩ := h
      have := capK c1; have := capK c2; have := capK c3; have := capK c4; have := capK c5; have := capK c6; have := capK c7; have := capK c8; have := capK c9; have := capK cobf; have := capK cobt; have := capK cobn; have := capK cobw; have := capK coba; have := capK corx; have := capK cory; have := capK cors; have := capK coro; have := capK corw; have := capK corq; have := capK corl; have := capK corg
      exact ⟨0, 0, rfl, by omega, by omega⟩
    · obtain ⟨Fl', rfl⟩ : ∃ f, Fl = f + 1 := ⟨Fl - 1, by omega⟩
      have ht : 6 * i + 5 < L := by omega
      have ih : ∀ {K' : Nat} {lod lnx lny lnm lnf lnt lpl lrX lrY lbf lbt lbn lbw lba lrx lry lrs lro lrw lrq lrl lrg : List Int32} {kod knx kny knm knf knt kpl krX krY kbf kbt kbn kbw kba krx kry krs kro krw krq krl krg : Nat} {pol sh thr pcn pla cor pol2 len rgs plc : Int32} {tw tw2 : Int64} {ax bx b_y ay mk way gon siz own fir frx fry fpl fxs fys wX wY : Nat → Int32} {are f3 : Nat → Int64}, LI (i + 1) K' lod lnx lny lnm lnf lnt lpl lrX lrY lbf lbt lbn lbw lba lrx lry lrs lro lrw lrq lrl lrg kod knx kny knm knf knt kpl krX krY kbf kbt kbn kbw kba krx kry krs kro krw krq krl krg pol sh thr pcn pla cor pol2 len rgs plc tw tw2 ax bx b_y ay mk way gon siz own fir frx fry fpl fxs fys wX wY are f3 → good (i + 1) K' (lp (fun _ _ _ _ _ _ _ _ _ _ _ _ _ _ _ _ _ _ _ _ _ _ _ _ _ _ _ _ _ _ _ _ _ _ _ _ _ _ _ _ _ _ _ _ _ _ _ _ _ _ _ _ _ _ _ _ _ _ _ _ _ _ _ _ _ _ _ _ _ _ _ _ _ _ _ _ => none) (b_Law_law_23 F L xs 2049 2049 2049 2049 2048 2048 2048 1024 1024 1024 1024 2052 2052 4096 4096 4096 2052 2052) Fl' (nI (6 * i + 6)) lod kod lnx knx lny kny lnm knm lnf knf lnt knt lpl kpl lrX krX lrY krY lbf kbf lbt kbt lbn kbn lbw kbw lba kba lrx krx lry kry lrs krs lro kro lrw krw lrq krq lrl krl lrg krg pol tw sh thr pcn pla cor pol2 tw2 len rgs plc ax bx b_y ay mk way gon are siz own fir frx fry fpl fxs fys wX wY f3) := by
        intro K' lod lnx lny lnm lnf lnt lpl lrX lrY lbf lbt lbn lbw lba lrx lry lrs lro lrw lrq lrl lrg kod knx kny knm knf knt kpl krX krY kbf kbt kbn kbw kba krx kry krs kro krw krq krl krg pol sh thr pcn pla cor pol2 len rgs plc tw tw2 ax bx b_y ay mk way gon siz own fir frx fry fpl fxs fys wX wY are f3 h'
        exact ihd (i + 1) K' Fl' (by omega) (by omega) (by omega) h'
      rw [u1]
      generalize lp (fun _ _ _ _ _ _ _ _ _ _ _ _ _ _ _ _ _ _ _ _ _ _ _ _ _ _ _ _ _ _ _ _ _ _ _ _ _ _ _ _ _ _ _ _ _ _ _ _ _ _ _ _ _ _ _ _ _ _ _ _ _ _ _ _ _ _ _ _ _ _ _ _ _ _ _ _ => none) (b_Law_law_23 F L xs 2049 2049 2049 2049 2048 2048 2048 1024 1024 1024 1024 2052 2052 4096 4096 4096 2052 2052) Fl' = g at ih ⊢
      unfold b_Law_law_23
      rw [if_neg (fun z => cond ((law_cond hL (by omega)).mp z)), ixc (show 6 * i < L by omega) (by omega), if_neg (ixm (show 6 * i < L by omega) (by omega))]
      by_cases k0 : xs (6 * i) &&& 7 = 0
      · rw [if_pos k0]; exact law_piece hF hL ht h ih
      · rw [if_neg k0]
        by_cases k1 : xs (6 * i) &&& 7 = 1
        · rw [if_pos k1]; exact law_clear hF hL ht h ih
        · rw [if_neg k1]
          by_cases k2 : xs (6 * i) &&& 7 = 2
          · rw [if_pos k2]; exact law_over hF hL ht h ih
          · rw [if_neg k2]
            by_cases k3 : xs (6 * i) &&& 7 = 3
            · rw [if_pos k3]; exact law_plan hF hL ht h ih
            · rw [if_neg k3]
              by_cases k4 : xs (6 * i) &&& 7 = 4
              · rw [if_pos k4]; exact law_ord hF hL ht h ih
              · rw [if_neg k4]
                by_cases k5 : xs (6 * i) &&& 7 = 5
                · rw [if_pos k5]; exact law_area hF hL ht h ih
                · rw [if_neg k5]
                  by_cases k6 : xs (6 * i) &&& 7 = 6
                  · rw [if_pos k6]; exact law_count hF hL ht h ih
                  · rw [if_neg k6]; exact law_none hF hL ht h ih
theorem law_pure : LawPure := by
  intro L xs hL
  have c16 : ∀ l : Nat, l = 0 → capO l 16 4096 := fun l h => ⟨by omega, by omega, by omega⟩
  have k := law_loop (F := 5000) (L := L) (xs := xs) (by omega) hL 512 0 352 5000 (lod := []) (lnx := []) (lny := []) (lnm := []) (lnf := []) (lnt := []) (lpl := []) (lrX := []) (lrY := []) (lbf := []) (lbt := []) (lbn := []) (lbw := []) (lba := []) (lrx := []) (lry := []) (lrs := []) (lro := []) (lrw := []) (lrq := []) (lrl := []) (lrg := []) (kod := 16) (knx := 16) (kny := 16) (knm := 16) (knf := 16) (knt := 16) (kpl := 16) (krX := 16) (krY := 16) (kbf := 16) (kbt := 16) (kbn := 16) (kbw := 16) (kba := 16) (krx := 16) (kry := 16) (krs := 16) (kro := 16) (krw := 16) (krq := 16) (krl := 16) (krg := 16) (pol := 0) (tw := 0) (sh := 0) (thr := 0) (pcn := 0) (pla := 0) (cor := 0) (pol2 := 0) (tw2 := 0) (len := 0) (rgs := 0) (plc := 0) (ax := fun _ => 0) (bx := fun _ => 0) (b_y := fun _ => 0) (ay := fun _ => 0) (mk := fun _ => 0) (way := fun _ => 0) (gon := fun _ => 0) (are := fun _ => 0) (siz := fun _ => 0) (own := fun _ => 0) (fir := fun _ => 0) (frx := fun _ => 0) (fry := fun _ => 0) (fpl := fun _ => 0) (fxs := fun _ => 0) (fys := fun _ => 0) (wX := fun _ => 0) (wY := fun _ => 0) (f3 := fun _ => 0) (by omega) (by omega) (by omega) ⟨0, 0, fun _ => 0, fun _ => 0, fun _ => 0, fun _ => 0, fun _ => 0, 0, 0, ⟨rfl, rfl, rfl, rfl, rfl, rfl⟩, rfl, net_none, ⟨by omega, by omega⟩, ⟨rfl, rfl, rfl, rfl, rfl, by omega, by omega, rfl, rfl⟩, ⟨c16 _ rfl, c16 _ rfl, c16 _ rfl, c16 _ rfl, c16 _ rfl, c16 _ rfl⟩, ⟨c16 _ rfl, c16 _ rfl, c16 _ rfl⟩, ⟨c16 _ rfl, c16 _ rfl, c16 _ rfl, c16 _ rfl, c16 _ rfl, c16 _ rfl, c16 _ rfl, c16 _ rfl, c16 _ rfl, c16 _ rfl, c16 _ rfl, c16 _ rfl, c16 _ rfl⟩, rfl⟩
  obtain ⟨C, S, e, h1, h2⟩ := k
  exact ⟨5000, C, S, e, by omega, by omega⟩
