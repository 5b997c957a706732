/-! contracts, by program (wip/gen.py) -/
set_option maxHeartbeats 4000000 in
set_option maxRecDepth 100000 in
theorem okX0_divideEach (l : Launch) {dC : Nat → ClassId} {dI : Nat → Nat → Nat} {o0 o1 o2 : Nat} {cA cB : ClassId} {sz : Nat} {x1 x2 x3 : Int32} {zs0 ns0 : Nat → Int32} {ak0 hd0 br0 dp0 de0 hn0 : Int32} {sm0 : Int64} {r : Int32} {st2 : S0} (hf : fX0_divideEach x1 x2 x3 zs0 ns0 ak0 hd0 br0 dp0 de0 hn0 sm0 = some (r, st2)) : kMi l yX0_divideEach wsX0_divideEach ({ frames := 2, cells := 0, slots := 0, locals := 42 }) (dC, dI) vwCl [(cA, .int), (cB, .int)] (w0 o0 o1 o2 cA cB zs0 ns0 ak0 hd0 br0 dp0 de0 hn0 sm0) (w0t o0 o1 o2 cA cB st2) [.ref o0, .int x1, .int x2, .int x3] sz r := by
  rw [fX0_divideEach] at hf
  refine Met.ofW (cc := cX0_divideEach) (maxL := 6) (ret := (some .int)) (by decide) rfl ?_
  intro p e s m args below meth c s₁ B hml hv
  obtain ⟨rfl, hsz, hP, hK, hD0⟩ := hv
  have hx := B.exec
  have hb := B.bytes
  have hr := B.returns
  have hts := atoms_spec (ws := wsX0_divideEach) B.pre
  have hown : s.vm.findClass RX0 = some m.cls := findClass_of_methodNamed B.named
  have hlocks := B.notSynchronized
  subst hsz
  have hD := hD0.self (sz := s.heap.size)
  generalize hAe : va_A (w0 o0 o1 o2 cA cB zs0 ns0 ak0 hd0 br0 dp0 de0 hn0 sm0) s.heap.size = A at hD ⊢
  have hA : ∀ q : Nat, s.heap.size ≤ q → A q := fun q h => by rw [← hAe]; exact Or.inr h
  have hS : va_S A s.heap s.heap [] := va_S.rf
  have hin0 : ∀ w ∈ wsX00, w ∈ wsX0_divideEach := fun w h => List.mem_cons_of_mem _ (List.mem_append_right _ h)
  have hfl9 := hts (.fieldLink RX0 9 "CountRoom" "sizes" "[I") (by decide +kernel)
  have hCF : CallFix p m c cX0_divideEach 6 s _ wsX0_divideEach RX0 := ⟨hx, hb, hml, hown, hts⟩
  have loop3 : ∀ (k : Nat) (y1 y2 y3 y4 : Int32) (zs ns : Nat → Int32) (ak hd br dp de hn : Int32) (sm : Int64) (H : Heap) (locs : List Loc) (ls : Array Slot), fX0_divideEach_3 k y1 y2 y3 y4 zs ns ak hd br dp de hn sm = some (r, st2) → va_P (dC, dI) vwCl (w0 o0 o1 o2 cA cB zs ns ak hd br dp de hn sm) H → va_D A (w0 o0 o1 o2 cA cB zs ns ak hd br dp de hn sm) → va_S A s.heap H locs → lv_has ls 6 [(0, .ref o0), (1, .int y1), (2, .int y2), (3, .int y3), (4, .int y4)] → W p l e (headSpec wsX0_divideEach ({ frames := 2, cells := 0, slots := 0, locals := 42 })).room s m ([.ref o0, .int x1, .int x2, .int x3] : List Value).toArray below meth c H locs 0 0 (MQ below (va_Qi (fun (r2 : Int32) (_ : Unit) => r2 = r) (k_out (dC, dI) vwCl [(cA, .int), (cB, .int)] A (w0t o0 o1 o2 cA cB st2)) A) ([.ref o0, .int x1, .int x2, .int x3] : List Value).toArray s 0 0 A) (F0 m 3 ls []) := by
    intro k
    induction k with
    | zero => intro y1 y2 y3 y4 zs ns ak hd br dp de hn sm H locs ls hf; cases hf
    | succ k ih =>
      intro y1 y2 y3 y4 zs ns ak hd br dp de hn sm H locs ls hf hP hD hS hl
      rw [fX0_divideEach_3] at hf
      refine lv_iload hx hb dX0_divideEach_3 (lv_at hl 4 rfl) ?_
      refine lv_aload_n hx hb dX0_divideEach_5 rfl (lv_at hl 0 rfl) ?_
      refine va_get (D := (dC, dI)) (ci := 0) (v := .ref o1) (C := RX0) (T := TX0) (N := 9) hx hb hts hin0 hown hK hP 0 rfl rfl 0 (by decide) hfl9 (fun _ h9 => h9) rfl dX0_divideEach_6 ?_
      refine lv_iload_n hx hb dX0_divideEach_9 rfl (lv_at hl 1 rfl) ?_
      obtain ⟨hi1, hf⟩ := og_no hf
      refine va_iald hx hb hK hP 1 0 rfl rfl hi1 dX0_divideEach_10 ?_
      refine lv_icmp_ge (tgt := 65) hx hb dX0_divideEach_11 (by decide) (fun c2 => ?_) (fun c2 => ?_)
      · have hf := (if_pos c2).symm.trans hf
        refine lv_aload_n hx hb dX0_divideEach_65 rfl (lv_at hl 0 rfl) ?_
        refine va_get (D := (dC, dI)) (ci := 0) (v := .ref o1) (C := RX0) (T := TX0) (N := 9) hx hb hts hin0 hown hK hP 0 rfl rfl 0 (by decide) hfl9 (fun _ h9 => h9) rfl dX0_divideEach_66 ?_
        refine lv_iload_n hx hb dX0_divideEach_69 rfl (lv_at hl 1 rfl) ?_
        obtain ⟨hi3, hf⟩ := og_no hf
        refine va_iald hx hb hK hP 1 0 rfl rfl hi3 dX0_divideEach_70 ?_
        obtain ⟨hv, hu⟩ := os_pair hf
        subst hu
        exact W.iret (v := zs y1.toNatClampNeg) hx hb hr (fun t ht hW => k_endi hv hP hK hD hS ht hW) hS.2.2 dX0_divideEach_71
      · have hf := (if_neg c2).symm.trans hf
        refine lv_aload_n hx hb dX0_divideEach_14 rfl (lv_at hl 0 rfl) ?_
        refine lv_iload_n hx hb dX0_divideEach_15 rfl (lv_at hl 2 rfl) ?_
        refine lv_iload_n hx hb dX0_divideEach_16 rfl (lv_at hl 3 rfl) ?_
        obtain ⟨r4, hq4, hf⟩ := ob_some hf
        try dsimp only at hf
        refine kc_i (wr := []) (As := [.int y2, .int y3]) (rest := []) [0, 1, 2] [] [0, 1] 0 0 hCF (okX0_hasPlace l hq4) (cwV 2 hts gX0_divideEach_X0_hasPlace rfl rfl rfl ydX0_hasPlace ⟨Nat.le_of_ble_eq_true rfl, Nat.le_of_ble_eq_true rfl⟩) hK hP hD hS hA rfl rfl rfl rfl rfl (fun _ h => by cases h) rfl rfl rfl rfl hl.1 rfl (Nat.le_of_ble_eq_true rfl) dX0_divideEach_17 ⟨Nat.zero_le _, Nat.zero_le _⟩ (fun H locs hP hD hS => ?_)
        have hP : va_P (dC, dI) vwCl (w0 o0 o1 o2 cA cB zs ns ak hd br dp de hn sm) H := hP
        have hD : va_D A (w0 o0 o1 o2 cA cB zs ns ak hd br dp de hn sm) := hD
        refine lv_if_ne (tgt := 26) hx hb dX0_divideEach_20 (by decide) (fun c5 => ?_) (fun c5 => ?_)
        · have hf := (if_neg c5).symm.trans hf
          refine lv_aload_n hx hb dX0_divideEach_26 rfl (lv_at hl 0 rfl) ?_
          refine lv_iload_n hx hb dX0_divideEach_27 rfl (lv_at hl 2 rfl) ?_
          refine lv_iload_n hx hb dX0_divideEach_28 rfl (lv_at hl 3 rfl) ?_
          obtain ⟨r6, hq6, hf⟩ := ob_some hf
          try dsimp only at hf
          refine kc_i (wr := []) (As := [.int y2, .int y3]) (rest := []) [0, 1, 2] [] [0, 1] 0 0 hCF (okX0_at l hq6) (cwV 2 hts gX0_divideEach_X0_at rfl rfl rfl ydX0_at ⟨Nat.le_of_ble_eq_true rfl, Nat.le_of_ble_eq_true rfl⟩) hK hP hD hS hA rfl rfl rfl rfl rfl (fun _ h => by cases h) rfl rfl rfl rfl hl.1 rfl (Nat.le_of_ble_eq_true rfl) dX0_divideEach_29 ⟨Nat.zero_le _, Nat.zero_le _⟩ (fun H locs hP hD hS => ?_)
          have hP : va_P (dC, dI) vwCl (w0 o0 o1 o2 cA cB zs ns ak hd br dp de hn sm) H := hP
          have hD : va_D A (w0 o0 o1 o2 cA cB zs ns ak hd br dp de hn sm) := hD
          refine lv_istore (lv' := [(5, .int r6), (0, .ref o0), (1, .int y1), (2, .int y2), (3, .int y3), (4, .int y4)]) hx hb dX0_divideEach_32 hl (by decide) rfl (fun ls hl => ?_)
          refine lv_iload hx hb dX0_divideEach_34 (lv_at hl 0 rfl) ?_
          refine lv_if_ne (tgt := 42) hx hb dX0_divideEach_36 (by decide) (fun c7 => ?_) (fun c7 => ?_)
          · have hf := (if_neg c7).symm.trans hf
            refine lv_aload_n hx hb dX0_divideEach_42 rfl (lv_at hl 1 rfl) ?_
            refine lv_iload_n hx hb dX0_divideEach_43 rfl (lv_at hl 2 rfl) ?_
            refine lv_iload hx hb dX0_divideEach_44 (lv_at hl 5 rfl) ?_
            refine lv_aload_n hx hb dX0_divideEach_46 rfl (lv_at hl 1 rfl) ?_
            refine lv_iload_n hx hb dX0_divideEach_47 rfl (lv_at hl 2 rfl) ?_
            refine lv_iload hx hb dX0_divideEach_48 (lv_at hl 5 rfl) ?_
            obtain ⟨r8, hq8, hf⟩ := ob_some hf
            try dsimp only at hf
            refine kc_i (wr := []) (As := [.int y1, .int y4]) (rest := [.int y4, .int y1, .ref o0]) [0, 1, 2] [] [0, 1] 0 0 hCF (okX0_at l hq8) (cwV 2 hts gX0_divideEach_X0_at rfl rfl rfl ydX0_at ⟨Nat.le_of_ble_eq_true rfl, Nat.le_of_ble_eq_true rfl⟩) hK hP hD hS hA rfl rfl rfl rfl rfl (fun _ h => by cases h) rfl rfl rfl rfl hl.1 rfl (Nat.le_of_ble_eq_true rfl) dX0_divideEach_50 ⟨Nat.zero_le _, Nat.zero_le _⟩ (fun H locs hP hD hS => ?_)
            have hP : va_P (dC, dI) vwCl (w0 o0 o1 o2 cA cB zs ns ak hd br dp de hn sm) H := hP
            have hD : va_D A (w0 o0 o1 o2 cA cB zs ns ak hd br dp de hn sm) := hD
            refine lv_iload hx hb dX0_divideEach_53 (lv_at hl 0 rfl) ?_
            obtain ⟨hi9, hf⟩ := og_no hf
            refine lv_idiv hx hb dX0_divideEach_55 hi9 ?_
            obtain ⟨⟨zs10, ns10, ak10, hd10, br10, dp10, de10, hn10, sm10⟩, hq10, hf⟩ := ob_some hf
            try dsimp only at hf
            refine kc_v (wr := []) (As := [.int y1, .int y4, .int (r8 / r6)]) (rest := []) [0, 1, 2] [] [0, 1] 0 0 hCF (okX0_put l hq10) (cwV 3 hts gX0_divideEach_X0_put rfl rfl rfl ydX0_put ⟨Nat.le_of_ble_eq_true rfl, Nat.le_of_ble_eq_true rfl⟩) hK hP hD hS hA rfl rfl rfl rfl rfl (fun _ h => by cases h) rfl rfl rfl rfl hl.1 rfl (Nat.le_of_ble_eq_true rfl) dX0_divideEach_56 ⟨Nat.zero_le _, Nat.zero_le _⟩ (fun H locs hP hD hS => ?_)
            have hP : va_P (dC, dI) vwCl (w0 o0 o1 o2 cA cB zs10 ns10 ak10 hd10 br10 dp10 de10 hn10 sm10) H := hP
            have hD : va_D A (w0 o0 o1 o2 cA cB zs10 ns10 ak10 hd10 br10 dp10 de10 hn10 sm10) := hD
            refine lv_iinc (v := y4 + 1) (lv' := [(4, .int (y4 + 1)), (5, .int r6), (0, .ref o0), (1, .int y1), (2, .int y2), (3, .int y3)]) hx hb dX0_divideEach_59 hl (k := 5) rfl (congrArg (fun t => y4 + t) (by decide)) (by decide) rfl (fun ls hl => ?_)
            refine lv_goto (tgt := 3) hx hb dX0_divideEach_62 (by decide) ?_
            exact ih _ _ _ _ _ _ _ _ _ _ _ _ _ _ _ _ hf hP hD hS (lv_sub hl [2, 3, 4, 5, 0] rfl)
          · have hf := (if_pos c7).symm.trans hf
            refine lv_bipush (v := (-13)) hx hb dX0_divideEach_39 (by decide) ?_
            obtain ⟨hv, hu⟩ := os_pair hf
            subst hu
            exact W.iret (v := (-13)) hx hb hr (fun t ht hW => k_endi hv hP hK hD hS ht hW) hS.2.2 dX0_divideEach_41
        · have hf := (if_pos c5).symm.trans hf
          refine lv_bipush (v := (-12)) hx hb dX0_divideEach_23 (by decide) ?_
          obtain ⟨hv, hu⟩ := os_pair hf
          subst hu
          exact W.iret (v := (-12)) hx hb hr (fun t ht hW => k_endi hv hP hK hD hS ht hW) hS.2.2 dX0_divideEach_25
  have hl := lv_entry ([.ref o0, .int x1, .int x2, .int x3]) (n := 6) (Nat.le_of_ble_eq_true rfl)
  rw [lg_entry_eq]
  generalize (lg_sl ([.ref o0, .int x1, .int x2, .int x3]) ++ List.replicate (6 - (lg_sl ([.ref o0, .int x1, .int x2, .int x3])).length) Slot.unset).toArray = ls at hl ⊢
  have hl : lv_has ls 6 [(0, .ref o0), (1, .int x1), (2, .int x2), (3, .int x3)] := hl
  refine lv_iconst (v := 0) hx hb dX0_divideEach_0 (by decide) ?_
  refine lv_istore (lv' := [(4, .int 0), (0, .ref o0), (1, .int x1), (2, .int x2), (3, .int x3)]) hx hb dX0_divideEach_1 hl (by decide) rfl (fun ls hl => ?_)
  exact loop3 9 _ _ _ _ _ _ _ _ _ _ _ _ _ _ _ _ hf hP hD hS (lv_sub hl [1, 2, 3, 4, 0] rfl)
set_option maxHeartbeats 4000000 in
set_option maxRecDepth 100000 in
theorem okX0_shareWithin (l : Launch) {dC : Nat → ClassId} {dI : Nat → Nat → Nat} {o0 o1 o2 : Nat} {cA cB : ClassId} {sz : Nat} {x1 x2 x3 : Int32} {zs0 ns0 : Nat → Int32} {ak0 hd0 br0 dp0 de0 hn0 : Int32} {sm0 : Int64} {r : Int32} {st2 : S0} (hf : fX0_shareWithin x1 x2 x3 zs0 ns0 ak0 hd0 br0 dp0 de0 hn0 sm0 = some (r, st2)) : kMi l yX0_shareWithin wsX0_shareWithin ({ frames := 3, cells := 0, slots := 0, locals := 67 }) (dC, dI) vwCl [(cA, .int), (cB, .int)] (w0 o0 o1 o2 cA cB zs0 ns0 ak0 hd0 br0 dp0 de0 hn0 sm0) (w0t o0 o1 o2 cA cB st2) [.ref o0, .int x1, .int x2, .int x3] sz r := by
  rw [fX0_shareWithin] at hf
  refine Met.ofW (cc := cX0_shareWithin) (maxL := 4) (ret := (some .int)) (by decide) rfl ?_
  intro p e s m args below meth c s₁ B hml hv
  obtain ⟨rfl, hsz, hP, hK, hD0⟩ := hv
  have hx := B.exec
  have hb := B.bytes
  have hr := B.returns
  have hts := atoms_spec (ws := wsX0_shareWithin) B.pre
  have hown : s.vm.findClass RX0 = some m.cls := findClass_of_methodNamed B.named
  have hlocks := B.notSynchronized
  subst hsz
  have hD := hD0.self (sz := s.heap.size)
  generalize hAe : va_A (w0 o0 o1 o2 cA cB zs0 ns0 ak0 hd0 br0 dp0 de0 hn0 sm0) s.heap.size = A at hD ⊢
  have hA : ∀ q : Nat, s.heap.size ≤ q → A q := fun q h => by rw [← hAe]; exact Or.inr h
  have hS : va_S A s.heap s.heap [] := va_S.rf
  have hin0 : ∀ w ∈ wsX00, w ∈ wsX0_shareWithin := fun w h => List.mem_cons_of_mem _ (List.mem_append_right _ h)
  have hCF : CallFix p m c cX0_shareWithin 4 s _ wsX0_shareWithin RX0 := ⟨hx, hb, hml, hown, hts⟩
  have hl := lv_entry ([.ref o0, .int x1, .int x2, .int x3]) (n := 4) (Nat.le_of_ble_eq_true rfl)
  rw [lg_entry_eq]
  generalize (lg_sl ([.ref o0, .int x1, .int x2, .int x3]) ++ List.replicate (4 - (lg_sl ([.ref o0, .int x1, .int x2, .int x3])).length) Slot.unset).toArray = ls at hl ⊢
  have hl : lv_has ls 4 [(0, .ref o0), (1, .int x1), (2, .int x2), (3, .int x3)] := hl
  refine lv_aload_n hx hb dX0_shareWithin_0 rfl (lv_at hl 0 rfl) ?_
  refine lv_iload_n hx hb dX0_shareWithin_1 rfl (lv_at hl 2 rfl) ?_
  obtain ⟨⟨r1, zs1, ns1, ak1, hd1, br1, dp1, de1, hn1, sm1⟩, hq1, hf⟩ := ob_some hf
  try dsimp only at hf
  refine kc_i (wr := []) (As := [.int x2]) (rest := []) [0, 1, 2] [] [0, 1] 0 0 hCF (okX0_hold l hq1) (cwV 1 hts gX0_shareWithin_X0_hold rfl rfl rfl ydX0_hold ⟨Nat.le_of_ble_eq_true rfl, Nat.le_of_ble_eq_true rfl⟩) hK hP hD hS hA rfl rfl rfl rfl rfl (fun _ h => by cases h) rfl rfl rfl rfl hl.1 rfl (Nat.le_of_ble_eq_true rfl) dX0_shareWithin_2 ⟨Nat.zero_le _, Nat.zero_le _⟩ (fun H locs hP hD hS => ?_)
  have hP : va_P (dC, dI) vwCl (w0 o0 o1 o2 cA cB zs1 ns1 ak1 hd1 br1 dp1 de1 hn1 sm1) H := hP
  have hD : va_D A (w0 o0 o1 o2 cA cB zs1 ns1 ak1 hd1 br1 dp1 de1 hn1 sm1) := hD
  refine lv_if_ne (tgt := 11) hx hb dX0_shareWithin_5 (by decide) (fun c2 => ?_) (fun c2 => ?_)
  · have hf := (if_neg c2).symm.trans hf
    refine lv_aload_n hx hb dX0_shareWithin_11 rfl (lv_at hl 0 rfl) ?_
    refine lv_aload_n hx hb dX0_shareWithin_12 rfl (lv_at hl 0 rfl) ?_
    refine lv_iload_n hx hb dX0_shareWithin_13 rfl (lv_at hl 1 rfl) ?_
    refine lv_iload_n hx hb dX0_shareWithin_14 rfl (lv_at hl 2 rfl) ?_
    refine lv_iload_n hx hb dX0_shareWithin_15 rfl (lv_at hl 3 rfl) ?_
    obtain ⟨⟨r3, zs3, ns3, ak3, hd3, br3, dp3, de3, hn3, sm3⟩, hq3, hf⟩ := ob_some hf
    try dsimp only at hf
    refine kc_i (wr := []) (As := [.int x1, .int x2, .int x3]) (rest := [.ref o0]) [0, 1, 2] [] [0, 1] 0 0 hCF (okX0_divideEach l hq3) (cwV 3 hts gX0_shareWithin_X0_divideEach rfl rfl rfl ydX0_divideEach ⟨Nat.le_of_ble_eq_true rfl, Nat.le_of_ble_eq_true rfl⟩) hK hP hD hS hA rfl rfl rfl rfl rfl (fun _ h => by cases h) rfl rfl rfl rfl hl.1 rfl (Nat.le_of_ble_eq_true rfl) dX0_shareWithin_16 ⟨Nat.zero_le _, Nat.zero_le _⟩ (fun H locs hP hD hS => ?_)
    have hP : va_P (dC, dI) vwCl (w0 o0 o1 o2 cA cB zs3 ns3 ak3 hd3 br3 dp3 de3 hn3 sm3) H := hP
    have hD : va_D A (w0 o0 o1 o2 cA cB zs3 ns3 ak3 hd3 br3 dp3 de3 hn3 sm3) := hD
    obtain ⟨⟨r4, zs4, ns4, ak4, hd4, br4, dp4, de4, hn4, sm4⟩, hq4, hf⟩ := ob_some hf
    try dsimp only at hf
    refine kc_i (wr := []) (As := [.int r3]) (rest := []) [0, 1, 2] [] [0, 1] 0 0 hCF (okX0_release l hq4) (cwV 1 hts gX0_shareWithin_X0_release rfl rfl rfl ydX0_release ⟨Nat.le_of_ble_eq_true rfl, Nat.le_of_ble_eq_true rfl⟩) hK hP hD hS hA rfl rfl rfl rfl rfl (fun _ h => by cases h) rfl rfl rfl rfl hl.1 rfl (Nat.le_of_ble_eq_true rfl) dX0_shareWithin_19 ⟨Nat.zero_le _, Nat.zero_le _⟩ (fun H locs hP hD hS => ?_)
    have hP : va_P (dC, dI) vwCl (w0 o0 o1 o2 cA cB zs4 ns4 ak4 hd4 br4 dp4 de4 hn4 sm4) H := hP
    have hD : va_D A (w0 o0 o1 o2 cA cB zs4 ns4 ak4 hd4 br4 dp4 de4 hn4 sm4) := hD
    obtain ⟨hv, hu⟩ := os_pair hf
    subst hu
    exact W.iret (v := r4) hx hb hr (fun t ht hW => k_endi hv hP hK hD hS ht hW) hS.2.2 dX0_shareWithin_22
  · have hf := (if_pos c2).symm.trans hf
    refine lv_bipush (v := (-11)) hx hb dX0_shareWithin_8 (by decide) ?_
    obtain ⟨hv, hu⟩ := os_pair hf
    subst hu
    exact W.iret (v := (-11)) hx hb hr (fun t ht hW => k_endi hv hP hK hD hS ht hW) hS.2.2 dX0_shareWithin_10
set_option maxHeartbeats 4000000 in
set_option maxRecDepth 100000 in
theorem okX0_addQuotient (l : Launch) {dC : Nat → ClassId} {dI : Nat → Nat → Nat} {o0 o1 o2 : Nat} {cA cB : ClassId} {sz : Nat} {x1 x2 x3 : Int32} {zs0 ns0 : Nat → Int32} {ak0 hd0 br0 dp0 de0 hn0 : Int32} {sm0 : Int64} {r : Int32} {st2 : S0} (hf : fX0_addQuotient x1 x2 x3 zs0 ns0 ak0 hd0 br0 dp0 de0 hn0 sm0 = some (r, st2)) : kMi l yX0_addQuotient wsX0_addQuotient ({ frames := 2, cells := 0, slots := 0, locals := 42 }) (dC, dI) vwCl [(cA, .int), (cB, .int)] (w0 o0 o1 o2 cA cB zs0 ns0 ak0 hd0 br0 dp0 de0 hn0 sm0) (w0t o0 o1 o2 cA cB st2) [.ref o0, .int x1, .int x2, .int x3] sz r := by
  rw [fX0_addQuotient] at hf
  refine Met.ofW (cc := cX0_addQuotient) (maxL := 5) (ret := (some .int)) (by decide) rfl ?_
  intro p e s m args below meth c s₁ B hml hv
  obtain ⟨rfl, hsz, hP, hK, hD0⟩ := hv
  have hx := B.exec
  have hb := B.bytes
  have hr := B.returns
  have hts := atoms_spec (ws := wsX0_addQuotient) B.pre
  have hown : s.vm.findClass RX0 = some m.cls := findClass_of_methodNamed B.named
  have hlocks := B.notSynchronized
  subst hsz
  have hD := hD0.self (sz := s.heap.size)
  generalize hAe : va_A (w0 o0 o1 o2 cA cB zs0 ns0 ak0 hd0 br0 dp0 de0 hn0 sm0) s.heap.size = A at hD ⊢
  have hA : ∀ q : Nat, s.heap.size ≤ q → A q := fun q h => by rw [← hAe]; exact Or.inr h
  have hS : va_S A s.heap s.heap [] := va_S.rf
  have hin0 : ∀ w ∈ wsX00, w ∈ wsX0_addQuotient := fun w h => List.mem_cons_of_mem _ (List.mem_append_right _ h)
  have hCF : CallFix p m c cX0_addQuotient 5 s _ wsX0_addQuotient RX0 := ⟨hx, hb, hml, hown, hts⟩
  have hl := lv_entry ([.ref o0, .int x1, .int x2, .int x3]) (n := 5) (Nat.le_of_ble_eq_true rfl)
  rw [lg_entry_eq]
  generalize (lg_sl ([.ref o0, .int x1, .int x2, .int x3]) ++ List.replicate (5 - (lg_sl ([.ref o0, .int x1, .int x2, .int x3])).length) Slot.unset).toArray = ls at hl ⊢
  have hl : lv_has ls 5 [(0, .ref o0), (1, .int x1), (2, .int x2), (3, .int x3)] := hl
  refine lv_aload_n hx hb dX0_addQuotient_0 rfl (lv_at hl 0 rfl) ?_
  refine lv_iload_n hx hb dX0_addQuotient_1 rfl (lv_at hl 2 rfl) ?_
  refine lv_iload_n hx hb dX0_addQuotient_2 rfl (lv_at hl 3 rfl) ?_
  obtain ⟨r1, hq1, hf⟩ := ob_some hf
  try dsimp only at hf
  refine kc_i (wr := []) (As := [.int x2, .int x3]) (rest := []) [0, 1, 2] [] [0, 1] 0 0 hCF (okX0_hasPlace l hq1) (cwV 2 hts gX0_addQuotient_X0_hasPlace rfl rfl rfl ydX0_hasPlace ⟨Nat.le_of_ble_eq_true rfl, Nat.le_of_ble_eq_true rfl⟩) hK hP hD hS hA rfl rfl rfl rfl rfl (fun _ h => by cases h) rfl rfl rfl rfl hl.1 rfl (Nat.le_of_ble_eq_true rfl) dX0_addQuotient_3 ⟨Nat.zero_le _, Nat.zero_le _⟩ (fun H locs hP hD hS => ?_)
  have hP : va_P (dC, dI) vwCl (w0 o0 o1 o2 cA cB zs0 ns0 ak0 hd0 br0 dp0 de0 hn0 sm0) H := hP
  have hD : va_D A (w0 o0 o1 o2 cA cB zs0 ns0 ak0 hd0 br0 dp0 de0 hn0 sm0) := hD
  refine lv_if_ne (tgt := 12) hx hb dX0_addQuotient_6 (by decide) (fun c2 => ?_) (fun c2 => ?_)
  · have hf := (if_neg c2).symm.trans hf
    refine lv_aload_n hx hb dX0_addQuotient_12 rfl (lv_at hl 0 rfl) ?_
    refine lv_iload_n hx hb dX0_addQuotient_13 rfl (lv_at hl 2 rfl) ?_
    refine lv_iload_n hx hb dX0_addQuotient_14 rfl (lv_at hl 3 rfl) ?_
    obtain ⟨r3, hq3, hf⟩ := ob_some hf
    try dsimp only at hf
    refine kc_i (wr := []) (As := [.int x2, .int x3]) (rest := []) [0, 1, 2] [] [0, 1] 0 0 hCF (okX0_at l hq3) (cwV 2 hts gX0_addQuotient_X0_at rfl rfl rfl ydX0_at ⟨Nat.le_of_ble_eq_true rfl, Nat.le_of_ble_eq_true rfl⟩) hK hP hD hS hA rfl rfl rfl rfl rfl (fun _ h => by cases h) rfl rfl rfl rfl hl.1 rfl (Nat.le_of_ble_eq_true rfl) dX0_addQuotient_15 ⟨Nat.zero_le _, Nat.zero_le _⟩ (fun H locs hP hD hS => ?_)
    have hP : va_P (dC, dI) vwCl (w0 o0 o1 o2 cA cB zs0 ns0 ak0 hd0 br0 dp0 de0 hn0 sm0) H := hP
    have hD : va_D A (w0 o0 o1 o2 cA cB zs0 ns0 ak0 hd0 br0 dp0 de0 hn0 sm0) := hD
    refine lv_istore (lv' := [(4, .int r3), (0, .ref o0), (1, .int x1), (2, .int x2), (3, .int x3)]) hx hb dX0_addQuotient_18 hl (by decide) rfl (fun ls hl => ?_)
    refine lv_iload hx hb dX0_addQuotient_20 (lv_at hl 0 rfl) ?_
    refine lv_if_ne (tgt := 28) hx hb dX0_addQuotient_22 (by decide) (fun c4 => ?_) (fun c4 => ?_)
    · have hf := (if_neg c4).symm.trans hf
      refine lv_aload_n hx hb dX0_addQuotient_28 rfl (lv_at hl 1 rfl) ?_
      refine lv_iload_n hx hb dX0_addQuotient_29 rfl (lv_at hl 3 rfl) ?_
      refine lv_iload_n hx hb dX0_addQuotient_30 rfl (lv_at hl 4 rfl) ?_
      refine lv_iload hx hb dX0_addQuotient_31 (lv_at hl 0 rfl) ?_
      refine lv_aload_n hx hb dX0_addQuotient_33 rfl (lv_at hl 1 rfl) ?_
      refine lv_iload_n hx hb dX0_addQuotient_34 rfl (lv_at hl 2 rfl) ?_
      refine lv_iload_n hx hb dX0_addQuotient_35 rfl (lv_at hl 4 rfl) ?_
      obtain ⟨r5, hq5, hf⟩ := ob_some hf
      try dsimp only at hf
      refine kc_i (wr := []) (As := [.int x1, .int x3]) (rest := [.int r3, .int x3, .int x2, .ref o0]) [0, 1, 2] [] [0, 1] 0 0 hCF (okX0_at l hq5) (cwV 2 hts gX0_addQuotient_X0_at rfl rfl rfl ydX0_at ⟨Nat.le_of_ble_eq_true rfl, Nat.le_of_ble_eq_true rfl⟩) hK hP hD hS hA rfl rfl rfl rfl rfl (fun _ h => by cases h) rfl rfl rfl rfl hl.1 rfl (Nat.le_of_ble_eq_true rfl) dX0_addQuotient_36 ⟨Nat.zero_le _, Nat.zero_le _⟩ (fun H locs hP hD hS => ?_)
      have hP : va_P (dC, dI) vwCl (w0 o0 o1 o2 cA cB zs0 ns0 ak0 hd0 br0 dp0 de0 hn0 sm0) H := hP
      have hD : va_D A (w0 o0 o1 o2 cA cB zs0 ns0 ak0 hd0 br0 dp0 de0 hn0 sm0) := hD
      refine lv_iload hx hb dX0_addQuotient_39 (lv_at hl 0 rfl) ?_
      obtain ⟨hi6, hf⟩ := og_no hf
      refine lv_idiv hx hb dX0_addQuotient_41 hi6 ?_
      refine lv_iadd hx hb dX0_addQuotient_42 ?_
      obtain ⟨⟨zs7, ns7, ak7, hd7, br7, dp7, de7, hn7, sm7⟩, hq7, hf⟩ := ob_some hf
      try dsimp only at hf
      refine kc_v (wr := []) (As := [.int x2, .int x3, .int (r3 + (r5 / r3))]) (rest := []) [0, 1, 2] [] [0, 1] 0 0 hCF (okX0_put l hq7) (cwV 3 hts gX0_addQuotient_X0_put rfl rfl rfl ydX0_put ⟨Nat.le_of_ble_eq_true rfl, Nat.le_of_ble_eq_true rfl⟩) hK hP hD hS hA rfl rfl rfl rfl rfl (fun _ h => by cases h) rfl rfl rfl rfl hl.1 rfl (Nat.le_of_ble_eq_true rfl) dX0_addQuotient_43 ⟨Nat.zero_le _, Nat.zero_le _⟩ (fun H locs hP hD hS => ?_)
      have hP : va_P (dC, dI) vwCl (w0 o0 o1 o2 cA cB zs7 ns7 ak7 hd7 br7 dp7 de7 hn7 sm7) H := hP
      have hD : va_D A (w0 o0 o1 o2 cA cB zs7 ns7 ak7 hd7 br7 dp7 de7 hn7 sm7) := hD
      refine lv_iconst (v := 1) hx hb dX0_addQuotient_46 (by decide) ?_
      obtain ⟨hv, hu⟩ := os_pair hf
      subst hu
      exact W.iret (v := 1) hx hb hr (fun t ht hW => k_endi hv hP hK hD hS ht hW) hS.2.2 dX0_addQuotient_47
    · have hf := (if_pos c4).symm.trans hf
      refine lv_bipush (v := (-13)) hx hb dX0_addQuotient_25 (by decide) ?_
      obtain ⟨hv, hu⟩ := os_pair hf
      subst hu
      exact W.iret (v := (-13)) hx hb hr (fun t ht hW => k_endi hv hP hK hD hS ht hW) hS.2.2 dX0_addQuotient_27
  · have hf := (if_pos c2).symm.trans hf
    refine lv_bipush (v := (-12)) hx hb dX0_addQuotient_9 (by decide) ?_
    obtain ⟨hv, hu⟩ := os_pair hf
    subst hu
    exact W.iret (v := (-12)) hx hb hr (fun t ht hW => k_endi hv hP hK hD hS ht hW) hS.2.2 dX0_addQuotient_11
set_option maxHeartbeats 4000000 in
set_option maxRecDepth 100000 in
theorem okX0_spreadAt (l : Launch) {dC : Nat → ClassId} {dI : Nat → Nat → Nat} {o0 o1 o2 : Nat} {cA cB : ClassId} {sz : Nat} {x1 x2 x3 : Int32} {zs0 ns0 : Nat → Int32} {ak0 hd0 br0 dp0 de0 hn0 : Int32} {sm0 : Int64} {r : Int32} {st2 : S0} (hf : fX0_spreadAt x1 x2 x3 zs0 ns0 ak0 hd0 br0 dp0 de0 hn0 sm0 = some (r, st2)) : kMi l yX0_spreadAt wsX0_spreadAt ({ frames := 3, cells := 0, slots := 0, locals := 66 }) (dC, dI) vwCl [(cA, .int), (cB, .int)] (w0 o0 o1 o2 cA cB zs0 ns0 ak0 hd0 br0 dp0 de0 hn0 sm0) (w0t o0 o1 o2 cA cB st2) [.ref o0, .int x1, .int x2, .int x3] sz r := by
  rw [fX0_spreadAt] at hf
  refine Met.ofW (cc := cX0_spreadAt) (maxL := 4) (ret := (some .int)) (by decide) rfl ?_
  intro p e s m args below meth c s₁ B hml hv
  obtain ⟨rfl, hsz, hP, hK, hD0⟩ := hv
  have hx := B.exec
  have hb := B.bytes
  have hr := B.returns
  have hts := atoms_spec (ws := wsX0_spreadAt) B.pre
  have hown : s.vm.findClass RX0 = some m.cls := findClass_of_methodNamed B.named
  have hlocks := B.notSynchronized
  subst hsz
  have hD := hD0.self (sz := s.heap.size)
  generalize hAe : va_A (w0 o0 o1 o2 cA cB zs0 ns0 ak0 hd0 br0 dp0 de0 hn0 sm0) s.heap.size = A at hD ⊢
  have hA : ∀ q : Nat, s.heap.size ≤ q → A q := fun q h => by rw [← hAe]; exact Or.inr h
  have hS : va_S A s.heap s.heap [] := va_S.rf
  have hin0 : ∀ w ∈ wsX00, w ∈ wsX0_spreadAt := fun w h => List.mem_cons_of_mem _ (List.mem_append_right _ h)
  have hCF : CallFix p m c cX0_spreadAt 4 s _ wsX0_spreadAt RX0 := ⟨hx, hb, hml, hown, hts⟩
  have hl := lv_entry ([.ref o0, .int x1, .int x2, .int x3]) (n := 4) (Nat.le_of_ble_eq_true rfl)
  rw [lg_entry_eq]
  generalize (lg_sl ([.ref o0, .int x1, .int x2, .int x3]) ++ List.replicate (4 - (lg_sl ([.ref o0, .int x1, .int x2, .int x3])).length) Slot.unset).toArray = ls at hl ⊢
  have hl : lv_has ls 4 [(0, .ref o0), (1, .int x1), (2, .int x2), (3, .int x3)] := hl
  refine lv_aload_n hx hb dX0_spreadAt_0 rfl (lv_at hl 0 rfl) ?_
  refine lv_iload_n hx hb dX0_spreadAt_1 rfl (lv_at hl 2 rfl) ?_
  obtain ⟨⟨r1, zs1, ns1, ak1, hd1, br1, dp1, de1, hn1, sm1⟩, hq1, hf⟩ := ob_some hf
  try dsimp only at hf
  refine kc_i (wr := []) (As := [.int x2]) (rest := []) [0, 1, 2] [] [0, 1] 0 0 hCF (okX0_hold l hq1) (cwV 1 hts gX0_spreadAt_X0_hold rfl rfl rfl ydX0_hold ⟨Nat.le_of_ble_eq_true rfl, Nat.le_of_ble_eq_true rfl⟩) hK hP hD hS hA rfl rfl rfl rfl rfl (fun _ h => by cases h) rfl rfl rfl rfl hl.1 rfl (Nat.le_of_ble_eq_true rfl) dX0_spreadAt_2 ⟨Nat.zero_le _, Nat.zero_le _⟩ (fun H locs hP hD hS => ?_)
  have hP : va_P (dC, dI) vwCl (w0 o0 o1 o2 cA cB zs1 ns1 ak1 hd1 br1 dp1 de1 hn1 sm1) H := hP
  have hD : va_D A (w0 o0 o1 o2 cA cB zs1 ns1 ak1 hd1 br1 dp1 de1 hn1 sm1) := hD
  refine lv_if_ne (tgt := 11) hx hb dX0_spreadAt_5 (by decide) (fun c2 => ?_) (fun c2 => ?_)
  · have hf := (if_neg c2).symm.trans hf
    refine lv_aload_n hx hb dX0_spreadAt_11 rfl (lv_at hl 0 rfl) ?_
    refine lv_aload_n hx hb dX0_spreadAt_12 rfl (lv_at hl 0 rfl) ?_
    refine lv_iload_n hx hb dX0_spreadAt_13 rfl (lv_at hl 1 rfl) ?_
    refine lv_iload_n hx hb dX0_spreadAt_14 rfl (lv_at hl 2 rfl) ?_
    refine lv_iload_n hx hb dX0_spreadAt_15 rfl (lv_at hl 3 rfl) ?_
    obtain ⟨⟨r3, zs3, ns3, ak3, hd3, br3, dp3, de3, hn3, sm3⟩, hq3, hf⟩ := ob_some hf
    try dsimp only at hf
    refine kc_i (wr := []) (As := [.int x1, .int x2, .int x3]) (rest := [.ref o0]) [0, 1, 2] [] [0, 1] 0 0 hCF (okX0_addQuotient l hq3) (cwV 3 hts gX0_spreadAt_X0_addQuotient rfl rfl rfl ydX0_addQuotient ⟨Nat.le_of_ble_eq_true rfl, Nat.le_of_ble_eq_true rfl⟩) hK hP hD hS hA rfl rfl rfl rfl rfl (fun _ h => by cases h) rfl rfl rfl rfl hl.1 rfl (Nat.le_of_ble_eq_true rfl) dX0_spreadAt_16 ⟨Nat.zero_le _, Nat.zero_le _⟩ (fun H locs hP hD hS => ?_)
    have hP : va_P (dC, dI) vwCl (w0 o0 o1 o2 cA cB zs3 ns3 ak3 hd3 br3 dp3 de3 hn3 sm3) H := hP
    have hD : va_D A (w0 o0 o1 o2 cA cB zs3 ns3 ak3 hd3 br3 dp3 de3 hn3 sm3) := hD
    obtain ⟨⟨r4, zs4, ns4, ak4, hd4, br4, dp4, de4, hn4, sm4⟩, hq4, hf⟩ := ob_some hf
    try dsimp only at hf
    refine kc_i (wr := []) (As := [.int r3]) (rest := []) [0, 1, 2] [] [0, 1] 0 0 hCF (okX0_release l hq4) (cwV 1 hts gX0_spreadAt_X0_release rfl rfl rfl ydX0_release ⟨Nat.le_of_ble_eq_true rfl, Nat.le_of_ble_eq_true rfl⟩) hK hP hD hS hA rfl rfl rfl rfl rfl (fun _ h => by cases h) rfl rfl rfl rfl hl.1 rfl (Nat.le_of_ble_eq_true rfl) dX0_spreadAt_19 ⟨Nat.zero_le _, Nat.zero_le _⟩ (fun H locs hP hD hS => ?_)
    have hP : va_P (dC, dI) vwCl (w0 o0 o1 o2 cA cB zs4 ns4 ak4 hd4 br4 dp4 de4 hn4 sm4) H := hP
    have hD : va_D A (w0 o0 o1 o2 cA cB zs4 ns4 ak4 hd4 br4 dp4 de4 hn4 sm4) := hD
    obtain ⟨hv, hu⟩ := os_pair hf
    subst hu
    exact W.iret (v := r4) hx hb hr (fun t ht hW => k_endi hv hP hK hD hS ht hW) hS.2.2 dX0_spreadAt_22
  · have hf := (if_pos c2).symm.trans hf
    refine lv_bipush (v := (-11)) hx hb dX0_spreadAt_8 (by decide) ?_
    obtain ⟨hv, hu⟩ := os_pair hf
    subst hu
    exact W.iret (v := (-11)) hx hb hr (fun t ht hW => k_endi hv hP hK hD hS ht hW) hS.2.2 dX0_spreadAt_10
set_option maxHeartbeats 4000000 in
set_option maxRecDepth 100000 in
theorem okX0_spreadWithin (l : Launch) {dC : Nat → ClassId} {dI : Nat → Nat → Nat} {o0 o1 o2 : Nat} {cA cB : ClassId} {sz : Nat} {x1 x2 : Int32} {zs0 ns0 : Nat → Int32} {ak0 hd0 br0 dp0 de0 hn0 : Int32} {sm0 : Int64} {r : Int32} {st2 : S0} (hf : fX0_spreadWithin x1 x2 zs0 ns0 ak0 hd0 br0 dp0 de0 hn0 sm0 = some (r, st2)) : kMi l yX0_spreadWithin wsX0_spreadWithin ({ frames := 4, cells := 0, slots := 0, locals := 89 }) (dC, dI) vwCl [(cA, .int), (cB, .int)] (w0 o0 o1 o2 cA cB zs0 ns0 ak0 hd0 br0 dp0 de0 hn0 sm0) (w0t o0 o1 o2 cA cB st2) [.ref o0, .int x1, .int x2] sz r := by
  rw [fX0_spreadWithin] at hf
  refine Met.ofW (cc := cX0_spreadWithin) (maxL := 5) (ret := (some .int)) (by decide) rfl ?_
  intro p e s m args below meth c s₁ B hml hv
  obtain ⟨rfl, hsz, hP, hK, hD0⟩ := hv
  have hx := B.exec
  have hb := B.bytes
  have hr := B.returns
  have hts := atoms_spec (ws := wsX0_spreadWithin) B.pre
  have hown : s.vm.findClass RX0 = some m.cls := findClass_of_methodNamed B.named
  have hlocks := B.notSynchronized
  subst hsz
  have hD := hD0.self (sz := s.heap.size)
  generalize hAe : va_A (w0 o0 o1 o2 cA cB zs0 ns0 ak0 hd0 br0 dp0 de0 hn0 sm0) s.heap.size = A at hD ⊢
  have hA : ∀ q : Nat, s.heap.size ≤ q → A q := fun q h => by rw [← hAe]; exact Or.inr h
  have hS : va_S A s.heap s.heap [] := va_S.rf
  have hin0 : ∀ w ∈ wsX00, w ∈ wsX0_spreadWithin := fun w h => List.mem_cons_of_mem _ (List.mem_append_right _ h)
  have hfl9 := hts (.fieldLink RX0 9 "CountRoom" "sizes" "[I") (by decide +kernel)
  have hCF : CallFix p m c cX0_spreadWithin 5 s _ wsX0_spreadWithin RX0 := ⟨hx, hb, hml, hown, hts⟩
  have loop2 : ∀ (k : Nat) (y1 y2 y3 : Int32) (zs ns : Nat → Int32) (ak hd br dp de hn : Int32) (sm : Int64) (H : Heap) (locs : List Loc) (ls : Array Slot), fX0_spreadWithin_2 k y1 y2 y3 zs ns ak hd br dp de hn sm = some (r, st2) → va_P (dC, dI) vwCl (w0 o0 o1 o2 cA cB zs ns ak hd br dp de hn sm) H → va_D A (w0 o0 o1 o2 cA cB zs ns ak hd br dp de hn sm) → va_S A s.heap H locs → lv_has ls 5 [(0, .ref o0), (1, .int y1), (2, .int y2), (3, .int y3)] → W p l e (headSpec wsX0_spreadWithin ({ frames := 4, cells := 0, slots := 0, locals := 89 })).room s m ([.ref o0, .int x1, .int x2] : List Value).toArray below meth c H locs 0 0 (MQ below (va_Qi (fun (r2 : Int32) (_ : Unit) => r2 = r) (k_out (dC, dI) vwCl [(cA, .int), (cB, .int)] A (w0t o0 o1 o2 cA cB st2)) A) ([.ref o0, .int x1, .int x2] : List Value).toArray s 0 0 A) (F0 m 2 ls []) := by
    intro k
    induction k with
    | zero => intro y1 y2 y3 zs ns ak hd br dp de hn sm H locs ls hf; cases hf
    | succ k ih =>
      intro y1 y2 y3 zs ns ak hd br dp de hn sm H locs ls hf hP hD hS hl
      rw [fX0_spreadWithin_2] at hf
      refine lv_iload_n hx hb dX0_spreadWithin_2 rfl (lv_at hl 3 rfl) ?_
      refine lv_aload_n hx hb dX0_spreadWithin_3 rfl (lv_at hl 0 rfl) ?_
      refine va_get (D := (dC, dI)) (ci := 0) (v := .ref o1) (C := RX0) (T := TX0) (N := 9) hx hb hts hin0 hown hK hP 0 rfl rfl 0 (by decide) hfl9 (fun _ h9 => h9) rfl dX0_spreadWithin_4 ?_
      refine lv_iload_n hx hb dX0_spreadWithin_7 rfl (lv_at hl 1 rfl) ?_
      obtain ⟨hi1, hf⟩ := og_no hf
      refine va_iald hx hb hK hP 1 0 rfl rfl hi1 dX0_spreadWithin_8 ?_
      refine lv_icmp_ge (tgt := 38) hx hb dX0_spreadWithin_9 (by decide) (fun c2 => ?_) (fun c2 => ?_)
      · have hf := (if_pos c2).symm.trans hf
        refine lv_aload_n hx hb dX0_spreadWithin_38 rfl (lv_at hl 0 rfl) ?_
        refine va_get (D := (dC, dI)) (ci := 0) (v := .ref o1) (C := RX0) (T := TX0) (N := 9) hx hb hts hin0 hown hK hP 0 rfl rfl 0 (by decide) hfl9 (fun _ h9 => h9) rfl dX0_spreadWithin_39 ?_
        refine lv_iload_n hx hb dX0_spreadWithin_42 rfl (lv_at hl 1 rfl) ?_
        obtain ⟨hi3, hf⟩ := og_no hf
        refine va_iald hx hb hK hP 1 0 rfl rfl hi3 dX0_spreadWithin_43 ?_
        obtain ⟨hv, hu⟩ := os_pair hf
        subst hu
        exact W.iret (v := zs y1.toNatClampNeg) hx hb hr (fun t ht hW => k_endi hv hP hK hD hS ht hW) hS.2.2 dX0_spreadWithin_44
      · have hf := (if_neg c2).symm.trans hf
        refine lv_aload_n hx hb dX0_spreadWithin_12 rfl (lv_at hl 0 rfl) ?_
        refine lv_iload_n hx hb dX0_spreadWithin_13 rfl (lv_at hl 1 rfl) ?_
        refine lv_iload_n hx hb dX0_spreadWithin_14 rfl (lv_at hl 2 rfl) ?_
        refine lv_iload_n hx hb dX0_spreadWithin_15 rfl (lv_at hl 3 rfl) ?_
        obtain ⟨⟨r4, zs4, ns4, ak4, hd4, br4, dp4, de4, hn4, sm4⟩, hq4, hf⟩ := ob_some hf
        try dsimp only at hf
        refine kc_i (wr := []) (As := [.int y1, .int y2, .int y3]) (rest := []) [0, 1, 2] [] [0, 1] 0 0 hCF (okX0_spreadAt l hq4) (cwV 3 hts gX0_spreadWithin_X0_spreadAt rfl rfl rfl ydX0_spreadAt ⟨Nat.le_of_ble_eq_true rfl, Nat.le_of_ble_eq_true rfl⟩) hK hP hD hS hA rfl rfl rfl rfl rfl (fun _ h => by cases h) rfl rfl rfl rfl hl.1 rfl (Nat.le_of_ble_eq_true rfl) dX0_spreadWithin_16 ⟨Nat.zero_le _, Nat.zero_le _⟩ (fun H locs hP hD hS => ?_)
        have hP : va_P (dC, dI) vwCl (w0 o0 o1 o2 cA cB zs4 ns4 ak4 hd4 br4 dp4 de4 hn4 sm4) H := hP
        have hD : va_D A (w0 o0 o1 o2 cA cB zs4 ns4 ak4 hd4 br4 dp4 de4 hn4 sm4) := hD
        refine lv_istore (lv' := [(4, .int r4), (0, .ref o0), (1, .int y1), (2, .int y2), (3, .int y3)]) hx hb dX0_spreadWithin_19 hl (by decide) rfl (fun ls hl => ?_)
        refine lv_iload hx hb dX0_spreadWithin_21 (lv_at hl 0 rfl) ?_
        obtain ⟨r5, hq5, hf⟩ := ob_some hf
        try dsimp only at hf
        refine ks_i (wr := w0 o0 o1 o2 cA cB zs4 ns4 ak4 hd4 br4 dp4 de4 hn4 sm4) (As := [.int r4]) (rest := []) [0, 1, 2] hCF (okX0_isFailure l hq5) (va_cwS 1 hts gX0_spreadWithin_X0_isFailure rfl rfl rfl ydX0_isFailure ⟨Nat.le_of_ble_eq_true rfl, Nat.le_of_ble_eq_true rfl⟩) hK hP hD hS hA rfl rfl rfl hl.1 rfl (Nat.le_of_ble_eq_true rfl) dX0_spreadWithin_23 ⟨Nat.zero_le _, Nat.zero_le _⟩ (fun H locs hP hD hS => ?_)
        have hP : va_P (dC, dI) vwCl (w0 o0 o1 o2 cA cB zs4 ns4 ak4 hd4 br4 dp4 de4 hn4 sm4) H := hP
        have hD : va_D A (w0 o0 o1 o2 cA cB zs4 ns4 ak4 hd4 br4 dp4 de4 hn4 sm4) := hD
        refine lv_if_eq (tgt := 32) hx hb dX0_spreadWithin_26 (by decide) (fun c6 => ?_) (fun c6 => ?_)
        · have hf := (if_pos c6).symm.trans hf
          refine lv_iinc (v := y3 + 1) (lv' := [(3, .int (y3 + 1)), (4, .int r4), (0, .ref o0), (1, .int y1), (2, .int y2)]) hx hb dX0_spreadWithin_32 hl (k := 4) rfl (congrArg (fun t => y3 + t) (by decide)) (by decide) rfl (fun ls hl => ?_)
          refine lv_goto (tgt := 2) hx hb dX0_spreadWithin_35 (by decide) ?_
          exact ih _ _ _ _ _ _ _ _ _ _ _ _ _ _ _ hf hP hD hS (lv_sub hl [2, 3, 4, 0] rfl)
        · have hf := (if_neg c6).symm.trans hf
          refine lv_iload hx hb dX0_spreadWithin_29 (lv_at hl 0 rfl) ?_
          obtain ⟨hv, hu⟩ := os_pair hf
          subst hu
          exact W.iret (v := r4) hx hb hr (fun t ht hW => k_endi hv hP hK hD hS ht hW) hS.2.2 dX0_spreadWithin_31
  have hl := lv_entry ([.ref o0, .int x1, .int x2]) (n := 5) (Nat.le_of_ble_eq_true rfl)
  rw [lg_entry_eq]
  generalize (lg_sl ([.ref o0, .int x1, .int x2]) ++ List.replicate (5 - (lg_sl ([.ref o0, .int x1, .int x2])).length) Slot.unset).toArray = ls at hl ⊢
  have hl : lv_has ls 5 [(0, .ref o0), (1, .int x1), (2, .int x2)] := hl
  refine lv_iconst (v := 0) hx hb dX0_spreadWithin_0 (by decide) ?_
  refine lv_istore_n (lv' := [(3, .int 0), (0, .ref o0), (1, .int x1), (2, .int x2)]) hx hb dX0_spreadWithin_1 rfl hl (by decide) rfl (fun ls hl => ?_)
  exact loop2 9 _ _ _ _ _ _ _ _ _ _ _ _ _ _ _ hf hP hD hS (lv_sub hl [1, 2, 3, 0] rfl)
set_option maxHeartbeats 4000000 in
set_option maxRecDepth 100000 in
theorem okX0_climbWithin (l : Launch) (k : Nat) (hrc : ∀ {dC : Nat → ClassId} {dI : Nat → Nat → Nat} {o0 o1 o2 : Nat} {cA cB : ClassId} {sz : Nat} {x1 x2 x3 : Int32} {zs0 ns0 : Nat → Int32} {ak0 hd0 br0 dp0 de0 hn0 : Int32} {sm0 : Int64} {r : Int32} {st2 : S0} , fX0_climbFrom k x1 x2 x3 zs0 ns0 ak0 hd0 br0 dp0 de0 hn0 sm0 = some (r, st2) → kMi l yX0_climbFrom wsX0_climbFrom ({ frames := 10 + 2 * k, cells := 0, slots := 0, locals := 200 + 46 * k }) (dC, dI) vwCl [(cA, .int), (cB, .int)] (w0 o0 o1 o2 cA cB zs0 ns0 ak0 hd0 br0 dp0 de0 hn0 sm0) (w0t o0 o1 o2 cA cB st2) [.ref o0, .int x1, .int x2, .int x3] sz r) {dC : Nat → ClassId} {dI : Nat → Nat → Nat} {o0 o1 o2 : Nat} {cA cB : ClassId} {sz : Nat} {x1 x2 x3 : Int32} {zs0 ns0 : Nat → Int32} {ak0 hd0 br0 dp0 de0 hn0 : Int32} {sm0 : Int64} {r : Int32} {st2 : S0} (hf : fX0_climbWithin (fX0_climbFrom k) x1 x2 x3 zs0 ns0 ak0 hd0 br0 dp0 de0 hn0 sm0 = some (r, st2)) : kMi l yX0_climbWithin wsX0_climbWithin ({ frames := 10 + 2 * k + 1, cells := 0, slots := 0, locals := 200 + 46 * k + 23 }) (dC, dI) vwCl [(cA, .int), (cB, .int)] (w0 o0 o1 o2 cA cB zs0 ns0 ak0 hd0 br0 dp0 de0 hn0 sm0) (w0t o0 o1 o2 cA cB st2) [.ref o0, .int x1, .int x2, .int x3] sz r := by
  rw [fX0_climbWithin] at hf
  refine Met.ofW (cc := cX0_climbWithin) (maxL := 4) (ret := (some .int)) (by decide) rfl ?_
  intro p e s m args below meth c s₁ B hml hv
  obtain ⟨rfl, hsz, hP, hK, hD0⟩ := hv
  have hx := B.exec
  have hb := B.bytes
  have hr := B.returns
  have hts := atoms_spec (ws := wsX0_climbWithin) B.pre
  have hown : s.vm.findClass RX0 = some m.cls := findClass_of_methodNamed B.named
  have hlocks := B.notSynchronized
  subst hsz
  have hD := hD0.self (sz := s.heap.size)
  generalize hAe : va_A (w0 o0 o1 o2 cA cB zs0 ns0 ak0 hd0 br0 dp0 de0 hn0 sm0) s.heap.size = A at hD ⊢
  have hA : ∀ q : Nat, s.heap.size ≤ q → A q := fun q h => by rw [← hAe]; exact Or.inr h
  have hS : va_S A s.heap s.heap [] := va_S.rf
  have hin0 : ∀ w ∈ wsX00, w ∈ wsX0_climbWithin := fun w h => List.mem_cons_of_mem _ (List.mem_append_right _ h)
  have hfl97 := hts (.fieldLink RX0 97 "CountRoom" "sum" "J") (by decide +kernel)
  have hCF : CallFix p m c cX0_climbWithin 4 s _ wsX0_climbWithin RX0 := ⟨hx, hb, hml, hown, hts⟩
  have hl := lv_entry ([.ref o0, .int x1, .int x2, .int x3]) (n := 4) (Nat.le_of_ble_eq_true rfl)
  rw [lg_entry_eq]
  generalize (lg_sl ([.ref o0, .int x1, .int x2, .int x3]) ++ List.replicate (4 - (lg_sl ([.ref o0, .int x1, .int x2, .int x3])).length) Slot.unset).toArray = ls at hl ⊢
  have hl : lv_has ls 4 [(0, .ref o0), (1, .int x1), (2, .int x2), (3, .int x3)] := hl
  refine lv_aload_n hx hb dX0_climbWithin_0 rfl (lv_at hl 0 rfl) ?_
  refine lv_iload_n hx hb dX0_climbWithin_1 rfl (lv_at hl 1 rfl) ?_
  refine lv_iload_n hx hb dX0_climbWithin_2 rfl (lv_at hl 2 rfl) ?_
  obtain ⟨r1, hq1, hf⟩ := ob_some hf
  try dsimp only at hf
  refine kc_i (wr := []) (As := [.int x1, .int x2]) (rest := []) [0, 1, 2] [] [0, 1] 0 0 hCF (okX0_hasPlace l hq1) (cwV 2 hts gX0_climbWithin_X0_hasPlace rfl rfl rfl ydX0_hasPlace ⟨(by show 1 + 1 ≤ 10 + 2 * k + 1; omega), (by show 8 + (3 + 11) + (20) ≤ 200 + 46 * k + 23; omega)⟩) hK hP hD hS hA rfl rfl rfl rfl rfl (fun _ h => by cases h) rfl rfl rfl rfl hl.1 rfl (Nat.le_of_ble_eq_true rfl) dX0_climbWithin_3 ⟨Nat.zero_le _, Nat.zero_le _⟩ (fun H locs hP hD hS => ?_)
  have hP : va_P (dC, dI) vwCl (w0 o0 o1 o2 cA cB zs0 ns0 ak0 hd0 br0 dp0 de0 hn0 sm0) H := hP
  have hD : va_D A (w0 o0 o1 o2 cA cB zs0 ns0 ak0 hd0 br0 dp0 de0 hn0 sm0) := hD
  refine lv_if_ne (tgt := 12) hx hb dX0_climbWithin_6 (by decide) (fun c2 => ?_) (fun c2 => ?_)
  · have hf := (if_neg c2).symm.trans hf
    refine lv_aload_n hx hb dX0_climbWithin_12 rfl (lv_at hl 0 rfl) ?_
    refine lv_iload_n hx hb dX0_climbWithin_13 rfl (lv_at hl 1 rfl) ?_
    refine lv_iload_n hx hb dX0_climbWithin_14 rfl (lv_at hl 2 rfl) ?_
    refine lv_aload_n hx hb dX0_climbWithin_15 rfl (lv_at hl 0 rfl) ?_
    refine lv_iload_n hx hb dX0_climbWithin_16 rfl (lv_at hl 1 rfl) ?_
    refine lv_iload_n hx hb dX0_climbWithin_17 rfl (lv_at hl 2 rfl) ?_
    obtain ⟨r3, hq3, hf⟩ := ob_some hf
    try dsimp only at hf
    refine kc_i (wr := []) (As := [.int x1, .int x2]) (rest := [.int x2, .int x1, .ref o0]) [0, 1, 2] [] [0, 1] 0 0 hCF (okX0_at l hq3) (cwV 2 hts gX0_climbWithin_X0_at rfl rfl rfl ydX0_at ⟨(by show 0 + 1 ≤ 10 + 2 * k + 1; omega), (by show 8 + (3 + 11) + (0) ≤ 200 + 46 * k + 23; omega)⟩) hK hP hD hS hA rfl rfl rfl rfl rfl (fun _ h => by cases h) rfl rfl rfl rfl hl.1 rfl (Nat.le_of_ble_eq_true rfl) dX0_climbWithin_18 ⟨Nat.zero_le _, Nat.zero_le _⟩ (fun H locs hP hD hS => ?_)
    have hP : va_P (dC, dI) vwCl (w0 o0 o1 o2 cA cB zs0 ns0 ak0 hd0 br0 dp0 de0 hn0 sm0) H := hP
    have hD : va_D A (w0 o0 o1 o2 cA cB zs0 ns0 ak0 hd0 br0 dp0 de0 hn0 sm0) := hD
    refine lv_iload_n hx hb dX0_climbWithin_21 rfl (lv_at hl 2 rfl) ?_
    refine lv_iadd hx hb dX0_climbWithin_22 ?_
    obtain ⟨⟨zs4, ns4, ak4, hd4, br4, dp4, de4, hn4, sm4⟩, hq4, hf⟩ := ob_some hf
    try dsimp only at hf
    refine kc_v (wr := []) (As := [.int x1, .int x2, .int (r3 + x2)]) (rest := []) [0, 1, 2] [] [0, 1] 0 0 hCF (okX0_put l hq4) (cwV 3 hts gX0_climbWithin_X0_put rfl rfl rfl ydX0_put ⟨(by show 0 + 1 ≤ 10 + 2 * k + 1; omega), (by show 8 + (4 + 11) + (0) ≤ 200 + 46 * k + 23; omega)⟩) hK hP hD hS hA rfl rfl rfl rfl rfl (fun _ h => by cases h) rfl rfl rfl rfl hl.1 rfl (Nat.le_of_ble_eq_true rfl) dX0_climbWithin_23 ⟨Nat.zero_le _, Nat.zero_le _⟩ (fun H locs hP hD hS => ?_)
    have hP : va_P (dC, dI) vwCl (w0 o0 o1 o2 cA cB zs4 ns4 ak4 hd4 br4 dp4 de4 hn4 sm4) H := hP
    have hD : va_D A (w0 o0 o1 o2 cA cB zs4 ns4 ak4 hd4 br4 dp4 de4 hn4 sm4) := hD
    refine lv_iload_n hx hb dX0_climbWithin_26 rfl (lv_at hl 2 rfl) ?_
    refine lv_iconst (v := 1) hx hb dX0_climbWithin_27 (by decide) ?_
    refine lv_iadd hx hb dX0_climbWithin_28 ?_
    refine lv_iload_n hx hb dX0_climbWithin_29 rfl (lv_at hl 3 rfl) ?_
    refine lv_icmp_ge (tgt := 51) hx hb dX0_climbWithin_30 (by decide) (fun c5 => ?_) (fun c5 => ?_)
    · have hf := (if_pos c5).symm.trans hf
      refine lv_aload_n hx hb dX0_climbWithin_51 rfl (lv_at hl 0 rfl) ?_
      refine lv_dup hx hb dX0_climbWithin_52 rfl ?_
      refine va_get (D := (dC, dI)) (ci := 0) (v := .long sm4) (C := RX0) (T := TX0) (N := 9) hx hb hts hin0 hown hK hP 0 rfl rfl 8 (by decide) hfl97 (fun _ h9 => h9) rfl dX0_climbWithin_53 ?_
      refine lv_aload_n hx hb dX0_climbWithin_56 rfl (lv_at hl 0 rfl) ?_
      refine lv_iload_n hx hb dX0_climbWithin_57 rfl (lv_at hl 1 rfl) ?_
      refine lv_iconst (v := 0) hx hb dX0_climbWithin_58 (by decide) ?_
      obtain ⟨r6, hq6, hf⟩ := ob_some hf
      try dsimp only at hf
      refine kc_i (wr := []) (As := [.int x1, .int 0]) (rest := [.long sm4, .ref o0]) [0, 1, 2] [] [0, 1] 0 0 hCF (okX0_at l hq6) (cwV 2 hts gX0_climbWithin_X0_at rfl rfl rfl ydX0_at ⟨(by show 0 + 1 ≤ 10 + 2 * k + 1; omega), (by show 8 + (3 + 11) + (0) ≤ 200 + 46 * k + 23; omega)⟩) hK hP hD hS hA rfl rfl rfl rfl rfl (fun _ h => by cases h) rfl rfl rfl rfl hl.1 rfl (Nat.le_of_ble_eq_true rfl) dX0_climbWithin_59 ⟨Nat.zero_le _, Nat.zero_le _⟩ (fun H locs hP hD hS => ?_)
      have hP : va_P (dC, dI) vwCl (w0 o0 o1 o2 cA cB zs4 ns4 ak4 hd4 br4 dp4 de4 hn4 sm4) H := hP
      have hD : va_D A (w0 o0 o1 o2 cA cB zs4 ns4 ak4 hd4 br4 dp4 de4 hn4 sm4) := hD
      refine lv_i2l hx hb dX0_climbWithin_62 rfl ?_
      refine lv_ladd hx hb dX0_climbWithin_63 ?_
      refine va_put (D := (dC, dI)) (ci := 0) (v := .long (sm4 + r6.toInt64)) (ty := .long) (C := RX0) (T := TX0) (N := 9) hx hb hts hin0 tyX0 tyX0_ok nmX0 hown hK hP hD hS 0 rfl rfl 8 (by decide) hfl97 (fun _ h9 => h9) rfl (by decide +kernel) rfl rfl (Nat.le_of_ble_eq_true rfl) dX0_climbWithin_64 (fun H locs hP hD hS => ?_)
      have hP : va_P (dC, dI) vwCl (w0 o0 o1 o2 cA cB zs4 ns4 ak4 hd4 br4 dp4 de4 hn4 (sm4 + r6.toInt64)) H := hP
      have hD : va_D A (w0 o0 o1 o2 cA cB zs4 ns4 ak4 hd4 br4 dp4 de4 hn4 (sm4 + r6.toInt64)) := hD
      refine lv_iload_n hx hb dX0_climbWithin_67 rfl (lv_at hl 3 rfl) ?_
      obtain ⟨hv, hu⟩ := os_pair hf
      subst hu
      exact W.iret (v := x3) hx hb hr (fun t ht hW => k_endi hv hP hK hD hS ht hW) hS.2.2 dX0_climbWithin_68
    · have hf := (if_neg c5).symm.trans hf
      refine lv_iload_n hx hb dX0_climbWithin_33 rfl (lv_at hl 2 rfl) ?_
      refine lv_iconst (v := 1) hx hb dX0_climbWithin_34 (by decide) ?_
      refine lv_iadd hx hb dX0_climbWithin_35 ?_
      refine lv_bipush (v := 12) hx hb dX0_climbWithin_36 (by decide) ?_
      refine lv_icmp_ge (tgt := 51) hx hb dX0_climbWithin_38 (by decide) (fun c7 => ?_) (fun c7 => ?_)
      · have hf := (if_pos c7).symm.trans hf
        refine lv_aload_n hx hb dX0_climbWithin_51 rfl (lv_at hl 0 rfl) ?_
        refine lv_dup hx hb dX0_climbWithin_52 rfl ?_
        refine va_get (D := (dC, dI)) (ci := 0) (v := .long sm4) (C := RX0) (T := TX0) (N := 9) hx hb hts hin0 hown hK hP 0 rfl rfl 8 (by decide) hfl97 (fun _ h9 => h9) rfl dX0_climbWithin_53 ?_
        refine lv_aload_n hx hb dX0_climbWithin_56 rfl (lv_at hl 0 rfl) ?_
        refine lv_iload_n hx hb dX0_climbWithin_57 rfl (lv_at hl 1 rfl) ?_
        refine lv_iconst (v := 0) hx hb dX0_climbWithin_58 (by decide) ?_
        obtain ⟨r8, hq8, hf⟩ := ob_some hf
        try dsimp only at hf
        refine kc_i (wr := []) (As := [.int x1, .int 0]) (rest := [.long sm4, .ref o0]) [0, 1, 2] [] [0, 1] 0 0 hCF (okX0_at l hq8) (cwV 2 hts gX0_climbWithin_X0_at rfl rfl rfl ydX0_at ⟨(by show 0 + 1 ≤ 10 + 2 * k + 1; omega), (by show 8 + (3 + 11) + (0) ≤ 200 + 46 * k + 23; omega)⟩) hK hP hD hS hA rfl rfl rfl rfl rfl (fun _ h => by cases h) rfl rfl rfl rfl hl.1 rfl (Nat.le_of_ble_eq_true rfl) dX0_climbWithin_59 ⟨Nat.zero_le _, Nat.zero_le _⟩ (fun H locs hP hD hS => ?_)
        have hP : va_P (dC, dI) vwCl (w0 o0 o1 o2 cA cB zs4 ns4 ak4 hd4 br4 dp4 de4 hn4 sm4) H := hP
        have hD : va_D A (w0 o0 o1 o2 cA cB zs4 ns4 ak4 hd4 br4 dp4 de4 hn4 sm4) := hD
        refine lv_i2l hx hb dX0_climbWithin_62 rfl ?_
        refine lv_ladd hx hb dX0_climbWithin_63 ?_
        refine va_put (D := (dC, dI)) (ci := 0) (v := .long (sm4 + r8.toInt64)) (ty := .long) (C := RX0) (T := TX0) (N := 9) hx hb hts hin0 tyX0 tyX0_ok nmX0 hown hK hP hD hS 0 rfl rfl 8 (by decide) hfl97 (fun _ h9 => h9) rfl (by decide +kernel) rfl rfl (Nat.le_of_ble_eq_true rfl) dX0_climbWithin_64 (fun H locs hP hD hS => ?_)
        have hP : va_P (dC, dI) vwCl (w0 o0 o1 o2 cA cB zs4 ns4 ak4 hd4 br4 dp4 de4 hn4 (sm4 + r8.toInt64)) H := hP
        have hD : va_D A (w0 o0 o1 o2 cA cB zs4 ns4 ak4 hd4 br4 dp4 de4 hn4 (sm4 + r8.toInt64)) := hD
        refine lv_iload_n hx hb dX0_climbWithin_67 rfl (lv_at hl 3 rfl) ?_
        obtain ⟨hv, hu⟩ := os_pair hf
        subst hu
        exact W.iret (v := x3) hx hb hr (fun t ht hW => k_endi hv hP hK hD hS ht hW) hS.2.2 dX0_climbWithin_68
      · have hf := (if_neg c7).symm.trans hf
        refine lv_aload_n hx hb dX0_climbWithin_41 rfl (lv_at hl 0 rfl) ?_
        refine lv_iload_n hx hb dX0_climbWithin_42 rfl (lv_at hl 1 rfl) ?_
        refine lv_iload_n hx hb dX0_climbWithin_43 rfl (lv_at hl 2 rfl) ?_
        refine lv_iconst (v := 1) hx hb dX0_climbWithin_44 (by decide) ?_
        refine lv_iadd hx hb dX0_climbWithin_45 ?_
        refine lv_iload_n hx hb dX0_climbWithin_46 rfl (lv_at hl 3 rfl) ?_
        obtain ⟨⟨r9, zs9, ns9, ak9, hd9, br9, dp9, de9, hn9, sm9⟩, hq9, hf⟩ := ob_some hf
        try dsimp only at hf
        refine kc_i (wr := []) (As := [.int x1, .int (x2 + 1), .int x3]) (rest := []) [0, 1, 2] [] [0, 1] 0 0 hCF (hrc hq9) (cwV 3 hts gX0_climbWithin_X0_climbFrom rfl rfl rfl ydX0_climbFrom ⟨(by show 10 + 2 * k + 1 ≤ 10 + 2 * k + 1; omega), (by show 8 + (4 + 11) + (200 + 46 * k) ≤ 200 + 46 * k + 23; omega)⟩) hK hP hD hS hA rfl rfl rfl rfl rfl (fun _ h => by cases h) rfl rfl rfl rfl hl.1 rfl (Nat.le_of_ble_eq_true rfl) dX0_climbWithin_47 ⟨Nat.zero_le _, Nat.zero_le _⟩ (fun H locs hP hD hS => ?_)
        have hP : va_P (dC, dI) vwCl (w0 o0 o1 o2 cA cB zs9 ns9 ak9 hd9 br9 dp9 de9 hn9 sm9) H := hP
        have hD : va_D A (w0 o0 o1 o2 cA cB zs9 ns9 ak9 hd9 br9 dp9 de9 hn9 sm9) := hD
        obtain ⟨hv, hu⟩ := os_pair hf
        subst hu
        exact W.iret (v := r9) hx hb hr (fun t ht hW => k_endi hv hP hK hD hS ht hW) hS.2.2 dX0_climbWithin_50
  · have hf := (if_pos c2).symm.trans hf
    refine lv_bipush (v := (-12)) hx hb dX0_climbWithin_9 (by decide) ?_
    obtain ⟨hv, hu⟩ := os_pair hf
    subst hu
    exact W.iret (v := (-12)) hx hb hr (fun t ht hW => k_endi hv hP hK hD hS ht hW) hS.2.2 dX0_climbWithin_11
set_option maxHeartbeats 4000000 in
set_option maxRecDepth 100000 in
theorem okX0_climbFrom (l : Launch) (k : Nat) : ∀ {dC : Nat → ClassId} {dI : Nat → Nat → Nat} {o0 o1 o2 : Nat} {cA cB : ClassId} {sz : Nat} {x1 x2 x3 : Int32} {zs0 ns0 : Nat → Int32} {ak0 hd0 br0 dp0 de0 hn0 : Int32} {sm0 : Int64} {r : Int32} {st2 : S0} , fX0_climbFrom k x1 x2 x3 zs0 ns0 ak0 hd0 br0 dp0 de0 hn0 sm0 = some (r, st2) → kMi l yX0_climbFrom wsX0_climbFrom ({ frames := 10 + 2 * k, cells := 0, slots := 0, locals := 200 + 46 * k }) (dC, dI) vwCl [(cA, .int), (cB, .int)] (w0 o0 o1 o2 cA cB zs0 ns0 ak0 hd0 br0 dp0 de0 hn0 sm0) (w0t o0 o1 o2 cA cB st2) [.ref o0, .int x1, .int x2, .int x3] sz r := by
  induction k with
  | zero => intro dC dI o0 o1 o2 cA cB sz x1 x2 x3 zs0 ns0 ak0 hd0 br0 dp0 de0 hn0 sm0 r st2 hf; cases hf
  | succ k ih =>
    intro dC dI o0 o1 o2 cA cB sz x1 x2 x3 zs0 ns0 ak0 hd0 br0 dp0 de0 hn0 sm0 r st2 hf
    rw [fX0_climbFrom] at hf
    refine Met.ofW (cc := cX0_climbFrom) (maxL := 4) (ret := (some .int)) (by decide) rfl ?_
    intro p e s m args below meth c s₁ B hml hv
    obtain ⟨rfl, hsz, hP, hK, hD0⟩ := hv
    have hx := B.exec
    have hb := B.bytes
    have hr := B.returns
    have hts := atoms_spec (ws := wsX0_climbFrom) B.pre
    have hown : s.vm.findClass RX0 = some m.cls := findClass_of_methodNamed B.named
    have hlocks := B.notSynchronized
    subst hsz
    have hD := hD0.self (sz := s.heap.size)
    generalize hAe : va_A (w0 o0 o1 o2 cA cB zs0 ns0 ak0 hd0 br0 dp0 de0 hn0 sm0) s.heap.size = A at hD ⊢
    have hA : ∀ q : Nat, s.heap.size ≤ q → A q := fun q h => by rw [← hAe]; exact Or.inr h
    have hS : va_S A s.heap s.heap [] := va_S.rf
    have hin0 : ∀ w ∈ wsX00, w ∈ wsX0_climbFrom := fun w h => List.mem_cons_of_mem _ (List.mem_append_right _ h)
    have hCF : CallFix p m c cX0_climbFrom 4 s _ wsX0_climbFrom RX0 := ⟨hx, hb, hml, hown, hts⟩
    have hl := lv_entry ([.ref o0, .int x1, .int x2, .int x3]) (n := 4) (Nat.le_of_ble_eq_true rfl)
    rw [lg_entry_eq]
    generalize (lg_sl ([.ref o0, .int x1, .int x2, .int x3]) ++ List.replicate (4 - (lg_sl ([.ref o0, .int x1, .int x2, .int x3])).length) Slot.unset).toArray = ls at hl ⊢
    have hl : lv_has ls 4 [(0, .ref o0), (1, .int x1), (2, .int x2), (3, .int x3)] := hl
    refine lv_aload_n hx hb dX0_climbFrom_0 rfl (lv_at hl 0 rfl) ?_
    refine lv_iload_n hx hb dX0_climbFrom_1 rfl (lv_at hl 1 rfl) ?_
    obtain ⟨⟨r1, zs1, ns1, ak1, hd1, br1, dp1, de1, hn1, sm1⟩, hq1, hf⟩ := ob_some hf
    try dsimp only at hf
    refine kc_i (wr := []) (As := [.int x1]) (rest := []) [0, 1, 2] [] [0, 1] 0 0 hCF (okX0_hold l hq1) (cwV 1 hts gX0_climbFrom_X0_hold rfl rfl rfl ydX0_hold ⟨(by show 2 + 1 ≤ 10 + 2 * (k + 1); omega), (by show 8 + (2 + 11) + (41) ≤ 200 + 46 * (k + 1); omega)⟩) hK hP hD hS hA rfl rfl rfl rfl rfl (fun _ h => by cases h) rfl rfl rfl rfl hl.1 rfl (Nat.le_of_ble_eq_true rfl) dX0_climbFrom_2 ⟨Nat.zero_le _, Nat.zero_le _⟩ (fun H locs hP hD hS => ?_)
    have hP : va_P (dC, dI) vwCl (w0 o0 o1 o2 cA cB zs1 ns1 ak1 hd1 br1 dp1 de1 hn1 sm1) H := hP
    have hD : va_D A (w0 o0 o1 o2 cA cB zs1 ns1 ak1 hd1 br1 dp1 de1 hn1 sm1) := hD
    refine lv_if_ne (tgt := 11) hx hb dX0_climbFrom_5 (by decide) (fun c2 => ?_) (fun c2 => ?_)
    · have hf := (if_neg c2).symm.trans hf
      refine lv_aload_n hx hb dX0_climbFrom_11 rfl (lv_at hl 0 rfl) ?_
      refine lv_aload_n hx hb dX0_climbFrom_12 rfl (lv_at hl 0 rfl) ?_
      refine lv_iload_n hx hb dX0_climbFrom_13 rfl (lv_at hl 1 rfl) ?_
      refine lv_iload_n hx hb dX0_climbFrom_14 rfl (lv_at hl 2 rfl) ?_
      refine lv_iload_n hx hb dX0_climbFrom_15 rfl (lv_at hl 3 rfl) ?_
      obtain ⟨⟨r3, zs3, ns3, ak3, hd3, br3, dp3, de3, hn3, sm3⟩, hq3, hf⟩ := ob_some hf
      try dsimp only at hf
      refine kc_i (wr := []) (As := [.int x1, .int x2, .int x3]) (rest := [.ref o0]) [0, 1, 2] [] [0, 1] 0 0 hCF (okX0_climbWithin l k ih hq3) (cwV 3 hts gX0_climbFrom_X0_climbWithin rfl rfl rfl ydX0_climbWithin ⟨(by show 10 + 2 * k + 1 + 1 ≤ 10 + 2 * (k + 1); omega), (by show 8 + (4 + 11) + (200 + 46 * k + 23) ≤ 200 + 46 * (k + 1); omega)⟩) hK hP hD hS hA rfl rfl rfl rfl rfl (fun _ h => by cases h) rfl rfl rfl rfl hl.1 rfl (Nat.le_of_ble_eq_true rfl) dX0_climbFrom_16 ⟨Nat.zero_le _, Nat.zero_le _⟩ (fun H locs hP hD hS => ?_)
      have hP : va_P (dC, dI) vwCl (w0 o0 o1 o2 cA cB zs3 ns3 ak3 hd3 br3 dp3 de3 hn3 sm3) H := hP
      have hD : va_D A (w0 o0 o1 o2 cA cB zs3 ns3 ak3 hd3 br3 dp3 de3 hn3 sm3) := hD
      obtain ⟨⟨r4, zs4, ns4, ak4, hd4, br4, dp4, de4, hn4, sm4⟩, hq4, hf⟩ := ob_some hf
      try dsimp only at hf
      refine kc_i (wr := []) (As := [.int r3]) (rest := []) [0, 1, 2] [] [0, 1] 0 0 hCF (okX0_release l hq4) (cwV 1 hts gX0_climbFrom_X0_release rfl rfl rfl ydX0_release ⟨(by show 1 + 1 ≤ 10 + 2 * (k + 1); omega), (by show 8 + (2 + 11) + (20) ≤ 200 + 46 * (k + 1); omega)⟩) hK hP hD hS hA rfl rfl rfl rfl rfl (fun _ h => by cases h) rfl rfl rfl rfl hl.1 rfl (Nat.le_of_ble_eq_true rfl) dX0_climbFrom_19 ⟨Nat.zero_le _, Nat.zero_le _⟩ (fun H locs hP hD hS => ?_)
      have hP : va_P (dC, dI) vwCl (w0 o0 o1 o2 cA cB zs4 ns4 ak4 hd4 br4 dp4 de4 hn4 sm4) H := hP
      have hD : va_D A (w0 o0 o1 o2 cA cB zs4 ns4 ak4 hd4 br4 dp4 de4 hn4 sm4) := hD
      obtain ⟨hv, hu⟩ := os_pair hf
      subst hu
      exact W.iret (v := r4) hx hb hr (fun t ht hW => k_endi hv hP hK hD hS ht hW) hS.2.2 dX0_climbFrom_22
    · have hf := (if_pos c2).symm.trans hf
      refine lv_bipush (v := (-11)) hx hb dX0_climbFrom_8 (by decide) ?_
      obtain ⟨hv, hu⟩ := os_pair hf
      subst hu
      exact W.iret (v := (-11)) hx hb hr (fun t ht hW => k_endi hv hP hK hD hS ht hW) hS.2.2 dX0_climbFrom_10
set_option maxHeartbeats 4000000 in
set_option maxRecDepth 100000 in
theorem okX0_placeOf (l : Launch) {dC : Nat → ClassId} {dI : Nat → Nat → Nat} {o0 o1 o2 : Nat} {cA cB : ClassId} {sz : Nat} {x1 x2 : Int32} {zs0 ns0 : Nat → Int32} {ak0 hd0 br0 dp0 de0 hn0 : Int32} {sm0 : Int64} {r : Int32} (hf : fX0_placeOf x1 x2 zs0 ns0 ak0 hd0 br0 dp0 de0 hn0 sm0 = some r) : kMi l yX0_placeOf wsX0_placeOf ({ frames := 1, cells := 0, slots := 0, locals := 22 }) (dC, dI) vwCl [(cA, .int), (cB, .int)] (w0 o0 o1 o2 cA cB zs0 ns0 ak0 hd0 br0 dp0 de0 hn0 sm0) (w0 o0 o1 o2 cA cB zs0 ns0 ak0 hd0 br0 dp0 de0 hn0 sm0) [.ref o0, .int x1, .int x2] sz r := by
  rw [fX0_placeOf] at hf
  refine Met.ofW (cc := cX0_placeOf) (maxL := 4) (ret := (some .int)) (by decide) rfl ?_
  intro p e s m args below meth c s₁ B hml hv
  obtain ⟨rfl, hsz, hP, hK, hD0⟩ := hv
  have hx := B.exec
  have hb := B.bytes
  have hr := B.returns
  have hts := atoms_spec (ws := wsX0_placeOf) B.pre
  have hown : s.vm.findClass RX0 = some m.cls := findClass_of_methodNamed B.named
  have hlocks := B.notSynchronized
  subst hsz
  have hD := hD0.self (sz := s.heap.size)
  generalize hAe : va_A (w0 o0 o1 o2 cA cB zs0 ns0 ak0 hd0 br0 dp0 de0 hn0 sm0) s.heap.size = A at hD ⊢
  have hA : ∀ q : Nat, s.heap.size ≤ q → A q := fun q h => by rw [← hAe]; exact Or.inr h
  have hS : va_S A s.heap s.heap [] := va_S.rf
  have hin0 : ∀ w ∈ wsX00, w ∈ wsX0_placeOf := fun w h => List.mem_cons_of_mem _ (List.mem_append_right _ h)
  have hfl9 := hts (.fieldLink RX0 9 "CountRoom" "sizes" "[I") (by decide +kernel)
  have hCF : CallFix p m c cX0_placeOf 4 s _ wsX0_placeOf RX0 := ⟨hx, hb, hml, hown, hts⟩
  have loop2 : ∀ (k : Nat) (y1 y2 y3 : Int32) (H : Heap) (locs : List Loc) (ls : Array Slot), fX0_placeOf_2 k y1 y2 y3 zs0 ns0 ak0 hd0 br0 dp0 de0 hn0 sm0 = some r → va_P (dC, dI) vwCl (w0 o0 o1 o2 cA cB zs0 ns0 ak0 hd0 br0 dp0 de0 hn0 sm0) H → va_D A (w0 o0 o1 o2 cA cB zs0 ns0 ak0 hd0 br0 dp0 de0 hn0 sm0) → va_S A s.heap H locs → lv_has ls 4 [(0, .ref o0), (1, .int y1), (2, .int y2), (3, .int y3)] → W p l e (headSpec wsX0_placeOf ({ frames := 1, cells := 0, slots := 0, locals := 22 })).room s m ([.ref o0, .int x1, .int x2] : List Value).toArray below meth c H locs 0 0 (MQ below (va_Qi (fun (r2 : Int32) (_ : Unit) => r2 = r) (k_out (dC, dI) vwCl [(cA, .int), (cB, .int)] A (w0 o0 o1 o2 cA cB zs0 ns0 ak0 hd0 br0 dp0 de0 hn0 sm0)) A) ([.ref o0, .int x1, .int x2] : List Value).toArray s 0 0 A) (F0 m 2 ls []) := by
    intro k
    induction k with
    | zero => intro y1 y2 y3  H locs ls hf; cases hf
    | succ k ih =>
      intro y1 y2 y3  H locs ls hf hP hD hS hl
      rw [fX0_placeOf_2] at hf
      refine lv_iload_n hx hb dX0_placeOf_2 rfl (lv_at hl 3 rfl) ?_
      refine lv_aload_n hx hb dX0_placeOf_3 rfl (lv_at hl 0 rfl) ?_
      refine va_get (D := (dC, dI)) (ci := 0) (v := .ref o1) (C := RX0) (T := TX0) (N := 9) hx hb hts hin0 hown hK hP 0 rfl rfl 0 (by decide) hfl9 (fun _ h9 => h9) rfl dX0_placeOf_4 ?_
      refine lv_iload_n hx hb dX0_placeOf_7 rfl (lv_at hl 1 rfl) ?_
      obtain ⟨hi1, hf⟩ := og_no hf
      refine va_iald hx hb hK hP 1 0 rfl rfl hi1 dX0_placeOf_8 ?_
      refine lv_icmp_ge (tgt := 30) hx hb dX0_placeOf_9 (by decide) (fun c2 => ?_) (fun c2 => ?_)
      · have hf := (if_pos c2).symm.trans hf
        refine lv_iconst (v := (-1)) hx hb dX0_placeOf_30 (by decide) ?_
        have hv := Option.some.inj hf
        exact W.iret (v := (-1)) hx hb hr (fun t ht hW => k_endi hv hP hK hD hS ht hW) hS.2.2 dX0_placeOf_31
      · have hf := (if_neg c2).symm.trans hf
        refine lv_aload_n hx hb dX0_placeOf_12 rfl (lv_at hl 0 rfl) ?_
        refine lv_iload_n hx hb dX0_placeOf_13 rfl (lv_at hl 1 rfl) ?_
        refine lv_iload_n hx hb dX0_placeOf_14 rfl (lv_at hl 3 rfl) ?_
        obtain ⟨r3, hq3, hf⟩ := ob_some hf
        try dsimp only at hf
        refine kc_i (wr := []) (As := [.int y1, .int y3]) (rest := []) [0, 1, 2] [] [0, 1] 0 0 hCF (okX0_at l hq3) (cwV 2 hts gX0_placeOf_X0_at rfl rfl rfl ydX0_at ⟨Nat.le_of_ble_eq_true rfl, Nat.le_of_ble_eq_true rfl⟩) hK hP hD hS hA rfl rfl rfl rfl rfl (fun _ h => by cases h) rfl rfl rfl rfl hl.1 rfl (Nat.le_of_ble_eq_true rfl) dX0_placeOf_15 ⟨Nat.zero_le _, Nat.zero_le _⟩ (fun H locs hP hD hS => ?_)
        have hP : va_P (dC, dI) vwCl (w0 o0 o1 o2 cA cB zs0 ns0 ak0 hd0 br0 dp0 de0 hn0 sm0) H := hP
        have hD : va_D A (w0 o0 o1 o2 cA cB zs0 ns0 ak0 hd0 br0 dp0 de0 hn0 sm0) := hD
        refine lv_iload_n hx hb dX0_placeOf_18 rfl (lv_at hl 2 rfl) ?_
        refine lv_icmp_ne (tgt := 24) hx hb dX0_placeOf_19 (by decide) (fun c4 => ?_) (fun c4 => ?_)
        · have hf := (if_neg c4).symm.trans hf
          refine lv_iinc (v := y3 + 1) (lv' := [(3, .int (y3 + 1)), (0, .ref o0), (1, .int y1), (2, .int y2)]) hx hb dX0_placeOf_24 hl (k := 3) rfl (congrArg (fun t => y3 + t) (by decide)) (by decide) rfl (fun ls hl => ?_)
          refine lv_goto (tgt := 2) hx hb dX0_placeOf_27 (by decide) ?_
          exact ih _ _ _ _ _ _ hf hP hD hS (lv_sub hl [1, 2, 3, 0] rfl)
        · have hf := (if_pos c4).symm.trans hf
          refine lv_iload_n hx hb dX0_placeOf_22 rfl (lv_at hl 3 rfl) ?_
          have hv := Option.some.inj hf
          exact W.iret (v := y3) hx hb hr (fun t ht hW => k_endi hv hP hK hD hS ht hW) hS.2.2 dX0_placeOf_23
  have hl := lv_entry ([.ref o0, .int x1, .int x2]) (n := 4) (Nat.le_of_ble_eq_true rfl)
  rw [lg_entry_eq]
  generalize (lg_sl ([.ref o0, .int x1, .int x2]) ++ List.replicate (4 - (lg_sl ([.ref o0, .int x1, .int x2])).length) Slot.unset).toArray = ls at hl ⊢
  have hl : lv_has ls 4 [(0, .ref o0), (1, .int x1), (2, .int x2)] := hl
  refine lv_iconst (v := 0) hx hb dX0_placeOf_0 (by decide) ?_
  refine lv_istore_n (lv' := [(3, .int 0), (0, .ref o0), (1, .int x1), (2, .int x2)]) hx hb dX0_placeOf_1 rfl hl (by decide) rfl (fun ls hl => ?_)
  exact loop2 9 _ _ _ _ _ _ hf hP hD hS (lv_sub hl [1, 2, 3, 0] rfl)
set_option maxHeartbeats 4000000 in
set_option maxRecDepth 100000 in
theorem okX0_raiseAtHand (l : Launch) {dC : Nat → ClassId} {dI : Nat → Nat → Nat} {o0 o1 o2 : Nat} {cA cB : ClassId} {sz : Nat} {zs0 ns0 : Nat → Int32} {ak0 hd0 br0 dp0 de0 hn0 : Int32} {sm0 : Int64} {r : Int32} {st2 : S0} (hf : fX0_raiseAtHand zs0 ns0 ak0 hd0 br0 dp0 de0 hn0 sm0 = some (r, st2)) : kMi l yX0_raiseAtHand wsX0_raiseAtHand ({ frames := 1, cells := 0, slots := 0, locals := 23 }) (dC, dI) vwCl [(cA, .int), (cB, .int)] (w0 o0 o1 o2 cA cB zs0 ns0 ak0 hd0 br0 dp0 de0 hn0 sm0) (w0t o0 o1 o2 cA cB st2) [.ref o0] sz r := by
  rw [fX0_raiseAtHand] at hf
  refine Met.ofW (cc := cX0_raiseAtHand) (maxL := 2) (ret := (some .boolean)) (by decide) rfl ?_
  intro p e s m args below meth c s₁ B hml hv
  obtain ⟨rfl, hsz, hP, hK, hD0⟩ := hv
  have hx := B.exec
  have hb := B.bytes
  have hr := B.returns
  have hts := atoms_spec (ws := wsX0_raiseAtHand) B.pre
  have hown : s.vm.findClass RX0 = some m.cls := findClass_of_methodNamed B.named
  have hlocks := B.notSynchronized
  subst hsz
  have hD := hD0.self (sz := s.heap.size)
  generalize hAe : va_A (w0 o0 o1 o2 cA cB zs0 ns0 ak0 hd0 br0 dp0 de0 hn0 sm0) s.heap.size = A at hD ⊢
  have hA : ∀ q : Nat, s.heap.size ≤ q → A q := fun q h => by rw [← hAe]; exact Or.inr h
  have hS : va_S A s.heap s.heap [] := va_S.rf
  have hin0 : ∀ w ∈ wsX00, w ∈ wsX0_raiseAtHand := fun w h => List.mem_cons_of_mem _ (List.mem_append_right _ h)
  have hfl54 := hts (.fieldLink RX0 54 "CountRoom" "hand" "I") (by decide +kernel)
  have hCF : CallFix p m c cX0_raiseAtHand 2 s _ wsX0_raiseAtHand RX0 := ⟨hx, hb, hml, hown, hts⟩
  have hl := lv_entry ([.ref o0]) (n := 2) (Nat.le_of_ble_eq_true rfl)
  rw [lg_entry_eq]
  generalize (lg_sl ([.ref o0]) ++ List.replicate (2 - (lg_sl ([.ref o0])).length) Slot.unset).toArray = ls at hl ⊢
  have hl : lv_has ls 2 [(0, .ref o0)] := hl
  refine lv_aload_n hx hb dX0_raiseAtHand_0 rfl (lv_at hl 0 rfl) ?_
  refine lv_aload_n hx hb dX0_raiseAtHand_1 rfl (lv_at hl 0 rfl) ?_
  refine va_get (D := (dC, dI)) (ci := 0) (v := .int hn0) (C := RX0) (T := TX0) (N := 9) hx hb hts hin0 hown hK hP 0 rfl rfl 7 (by decide) hfl54 (fun _ h9 => h9) rfl dX0_raiseAtHand_2 ?_
  refine lv_iconst (v := 0) hx hb dX0_raiseAtHand_5 (by decide) ?_
  obtain ⟨r1, hq1, hf⟩ := ob_some hf
  try dsimp only at hf
  refine kc_i (wr := []) (As := [.int hn0, .int 0]) (rest := []) [0, 1, 2] [] [0, 1] 0 0 hCF (okX0_at l hq1) (cwV 2 hts gX0_raiseAtHand_X0_at rfl rfl rfl ydX0_at ⟨Nat.le_of_ble_eq_true rfl, Nat.le_of_ble_eq_true rfl⟩) hK hP hD hS hA rfl rfl rfl rfl rfl (fun _ h => by cases h) rfl rfl rfl rfl hl.1 rfl (Nat.le_of_ble_eq_true rfl) dX0_raiseAtHand_6 ⟨Nat.zero_le _, Nat.zero_le _⟩ (fun H locs hP hD hS => ?_)
  have hP : va_P (dC, dI) vwCl (w0 o0 o1 o2 cA cB zs0 ns0 ak0 hd0 br0 dp0 de0 hn0 sm0) H := hP
  have hD : va_D A (w0 o0 o1 o2 cA cB zs0 ns0 ak0 hd0 br0 dp0 de0 hn0 sm0) := hD
  refine lv_iconst (v := 1) hx hb dX0_raiseAtHand_9 (by decide) ?_
  refine lv_iadd hx hb dX0_raiseAtHand_10 ?_
  refine lv_istore_n (lv' := [(1, .int (r1 + 1)), (0, .ref o0)]) hx hb dX0_raiseAtHand_11 rfl hl (by decide) rfl (fun ls hl => ?_)
  refine lv_aload_n hx hb dX0_raiseAtHand_12 rfl (lv_at hl 1 rfl) ?_
  refine lv_aload_n hx hb dX0_raiseAtHand_13 rfl (lv_at hl 1 rfl) ?_
  refine va_get (D := (dC, dI)) (ci := 0) (v := .int hn0) (C := RX0) (T := TX0) (N := 9) hx hb hts hin0 hown hK hP 0 rfl rfl 7 (by decide) hfl54 (fun _ h9 => h9) rfl dX0_raiseAtHand_14 ?_
  refine lv_iconst (v := 0) hx hb dX0_raiseAtHand_17 (by decide) ?_
  refine lv_iload_n hx hb dX0_raiseAtHand_18 rfl (lv_at hl 0 rfl) ?_
  obtain ⟨⟨zs2, ns2, ak2, hd2, br2, dp2, de2, hn2, sm2⟩, hq2, hf⟩ := ob_some hf
  try dsimp only at hf
  refine kc_v (wr := []) (As := [.int hn0, .int 0, .int (r1 + 1)]) (rest := []) [0, 1, 2] [] [0, 1] 0 0 hCF (okX0_put l hq2) (cwV 3 hts gX0_raiseAtHand_X0_put rfl rfl rfl ydX0_put ⟨Nat.le_of_ble_eq_true rfl, Nat.le_of_ble_eq_true rfl⟩) hK hP hD hS hA rfl rfl rfl rfl rfl (fun _ h => by cases h) rfl rfl rfl rfl hl.1 rfl (Nat.le_of_ble_eq_true rfl) dX0_raiseAtHand_19 ⟨Nat.zero_le _, Nat.zero_le _⟩ (fun H locs hP hD hS => ?_)
  have hP : va_P (dC, dI) vwCl (w0 o0 o1 o2 cA cB zs2 ns2 ak2 hd2 br2 dp2 de2 hn2 sm2) H := hP
  have hD : va_D A (w0 o0 o1 o2 cA cB zs2 ns2 ak2 hd2 br2 dp2 de2 hn2 sm2) := hD
  refine lv_iload_n hx hb dX0_raiseAtHand_22 rfl (lv_at hl 0 rfl) ?_
  refine lv_if_ne (tgt := 28) hx hb dX0_raiseAtHand_23 (by decide) (fun c3 => ?_) (fun c3 => ?_)
  · have hf := (if_neg c3).symm.trans hf
    refine lv_iload_n hx hb dX0_raiseAtHand_28 rfl (lv_at hl 0 rfl) ?_
    refine lv_iconst (v := 2) hx hb dX0_raiseAtHand_29 (by decide) ?_
    refine lv_irem hx hb dX0_raiseAtHand_30 (by decide) ?_
    refine lv_if_ne (tgt := 38) hx hb dX0_raiseAtHand_31 (by decide) (fun c4 => ?_) (fun c4 => ?_)
    · have hf := (if_neg c4).symm.trans hf
      refine lv_iconst (v := 0) hx hb dX0_raiseAtHand_38 (by decide) ?_
      obtain ⟨hv, hu⟩ := os_pair hf
      subst hu
      exact W.zret (v := 0) hx hb hr (by decide) (fun t ht hW => k_endi hv hP hK hD hS ht hW) hS.2.2 dX0_raiseAtHand_39
    · have hf := (if_pos c4).symm.trans hf
      refine lv_aload_n hx hb dX0_raiseAtHand_34 rfl (lv_at hl 1 rfl) ?_
      obtain ⟨⟨zs5, ns5, ak5, hd5, br5, dp5, de5, hn5, sm5⟩, hq5, hf⟩ := ob_some hf
      try dsimp only at hf
      refine kc_v (wr := []) (As := []) (rest := []) [0, 1, 2] [] [0, 1] 0 0 hCF (okX0_moveHand l hq5) (cwV 0 hts gX0_raiseAtHand_X0_moveHand rfl rfl rfl ydX0_moveHand ⟨Nat.le_of_ble_eq_true rfl, Nat.le_of_ble_eq_true rfl⟩) hK hP hD hS hA rfl rfl rfl rfl rfl (fun _ h => by cases h) rfl rfl rfl rfl hl.1 rfl (Nat.le_of_ble_eq_true rfl) dX0_raiseAtHand_35 ⟨Nat.zero_le _, Nat.zero_le _⟩ (fun H locs hP hD hS => ?_)
      have hP : va_P (dC, dI) vwCl (w0 o0 o1 o2 cA cB zs5 ns5 ak5 hd5 br5 dp5 de5 hn5 sm5) H := hP
      have hD : va_D A (w0 o0 o1 o2 cA cB zs5 ns5 ak5 hd5 br5 dp5 de5 hn5 sm5) := hD
      refine lv_iconst (v := 0) hx hb dX0_raiseAtHand_38 (by decide) ?_
      obtain ⟨hv, hu⟩ := os_pair hf
      subst hu
      exact W.zret (v := 0) hx hb hr (by decide) (fun t ht hW => k_endi hv hP hK hD hS ht hW) hS.2.2 dX0_raiseAtHand_39
  · have hf := (if_pos c3).symm.trans hf
    refine lv_iconst (v := 1) hx hb dX0_raiseAtHand_26 (by decide) ?_
    obtain ⟨hv, hu⟩ := os_pair hf
    subst hu
    exact W.zret (v := 1) hx hb hr (by decide) (fun t ht hW => k_endi hv hP hK hD hS ht hW) hS.2.2 dX0_raiseAtHand_27
set_option maxHeartbeats 4000000 in
set_option maxRecDepth 100000 in
theorem okX0_bringHeld (l : Launch) {dC : Nat → ClassId} {dI : Nat → Nat → Nat} {o0 o1 o2 : Nat} {cA cB : ClassId} {sz : Nat} {x1 x2 : Int32} {zs0 ns0 : Nat → Int32} {ak0 hd0 br0 dp0 de0 hn0 : Int32} {sm0 : Int64} {r : Int32} {st2 : S0} (hf : fX0_bringHeld x1 x2 zs0 ns0 ak0 hd0 br0 dp0 de0 hn0 sm0 = some (r, st2)) : kMi l yX0_bringHeld wsX0_bringHeld ({ frames := 1, cells := 0, slots := 0, locals := 23 }) (dC, dI) vwCl [(cA, .int), (cB, .int)] (w0 o0 o1 o2 cA cB zs0 ns0 ak0 hd0 br0 dp0 de0 hn0 sm0) (w0t o0 o1 o2 cA cB st2) [.ref o0, .int x1, .int x2] sz r := by
  rw [fX0_bringHeld] at hf
  refine Met.ofW (cc := cX0_bringHeld) (maxL := 5) (ret := (some .int)) (by decide) rfl ?_
  intro p e s m args below meth c s₁ B hml hv
  obtain ⟨rfl, hsz, hP, hK, hD0⟩ := hv
  have hx := B.exec
  have hb := B.bytes
  have hr := B.returns
  have hts := atoms_spec (ws := wsX0_bringHeld) B.pre
  have hown : s.vm.findClass RX0 = some m.cls := findClass_of_methodNamed B.named
  have hlocks := B.notSynchronized
  subst hsz
  have hD := hD0.self (sz := s.heap.size)
  generalize hAe : va_A (w0 o0 o1 o2 cA cB zs0 ns0 ak0 hd0 br0 dp0 de0 hn0 sm0) s.heap.size = A at hD ⊢
  have hA : ∀ q : Nat, s.heap.size ≤ q → A q := fun q h => by rw [← hAe]; exact Or.inr h
  have hS : va_S A s.heap s.heap [] := va_S.rf
  have hin0 : ∀ w ∈ wsX00, w ∈ wsX0_bringHeld := fun w h => List.mem_cons_of_mem _ (List.mem_append_right _ h)
  have hfl9 := hts (.fieldLink RX0 9 "CountRoom" "sizes" "[I") (by decide +kernel)
  have hfl97 := hts (.fieldLink RX0 97 "CountRoom" "sum" "J") (by decide +kernel)
  have hCF : CallFix p m c cX0_bringHeld 5 s _ wsX0_bringHeld RX0 := ⟨hx, hb, hml, hown, hts⟩
  have loop2 : ∀ (k : Nat) (y1 y2 y3 : Int32) (zs ns : Nat → Int32) (ak hd br dp de hn : Int32) (sm : Int64) (H : Heap) (locs : List Loc) (ls : Array Slot), fX0_bringHeld_2 k y1 y2 y3 zs ns ak hd br dp de hn sm = some (r, st2) → va_P (dC, dI) vwCl (w0 o0 o1 o2 cA cB zs ns ak hd br dp de hn sm) H → va_D A (w0 o0 o1 o2 cA cB zs ns ak hd br dp de hn sm) → va_S A s.heap H locs → lv_has ls 5 [(0, .ref o0), (1, .int y1), (2, .int y2), (3, .int y3)] → W p l e (headSpec wsX0_bringHeld ({ frames := 1, cells := 0, slots := 0, locals := 23 })).room s m ([.ref o0, .int x1, .int x2] : List Value).toArray below meth c H locs 0 0 (MQ below (va_Qi (fun (r2 : Int32) (_ : Unit) => r2 = r) (k_out (dC, dI) vwCl [(cA, .int), (cB, .int)] A (w0t o0 o1 o2 cA cB st2)) A) ([.ref o0, .int x1, .int x2] : List Value).toArray s 0 0 A) (F0 m 2 ls []) := by
    intro k
    induction k with
    | zero => intro y1 y2 y3 zs ns ak hd br dp de hn sm H locs ls hf; cases hf
    | succ k ih =>
      intro y1 y2 y3 zs ns ak hd br dp de hn sm H locs ls hf hP hD hS hl
      rw [fX0_bringHeld_2] at hf
      refine lv_iload_n hx hb dX0_bringHeld_2 rfl (lv_at hl 3 rfl) ?_
      refine lv_aload_n hx hb dX0_bringHeld_3 rfl (lv_at hl 0 rfl) ?_
      refine va_get (D := (dC, dI)) (ci := 0) (v := .ref o1) (C := RX0) (T := TX0) (N := 9) hx hb hts hin0 hown hK hP 0 rfl rfl 0 (by decide) hfl9 (fun _ h9 => h9) rfl dX0_bringHeld_4 ?_
      refine lv_iload_n hx hb dX0_bringHeld_7 rfl (lv_at hl 1 rfl) ?_
      obtain ⟨hi1, hf⟩ := og_no hf
      refine va_iald hx hb hK hP 1 0 rfl rfl hi1 dX0_bringHeld_8 ?_
      refine lv_icmp_ge (tgt := 58) hx hb dX0_bringHeld_9 (by decide) (fun c2 => ?_) (fun c2 => ?_)
      · have hf := (if_pos c2).symm.trans hf
        refine lv_aload_n hx hb dX0_bringHeld_58 rfl (lv_at hl 0 rfl) ?_
        refine va_get (D := (dC, dI)) (ci := 0) (v := .ref o1) (C := RX0) (T := TX0) (N := 9) hx hb hts hin0 hown hK hP 0 rfl rfl 0 (by decide) hfl9 (fun _ h9 => h9) rfl dX0_bringHeld_59 ?_
        refine lv_iload_n hx hb dX0_bringHeld_62 rfl (lv_at hl 1 rfl) ?_
        obtain ⟨hi3, hf⟩ := og_no hf
        refine va_iald hx hb hK hP 1 0 rfl rfl hi3 dX0_bringHeld_63 ?_
        obtain ⟨hv, hu⟩ := os_pair hf
        subst hu
        exact W.iret (v := zs y1.toNatClampNeg) hx hb hr (fun t ht hW => k_endi hv hP hK hD hS ht hW) hS.2.2 dX0_bringHeld_64
      · have hf := (if_neg c2).symm.trans hf
        refine lv_aload_n hx hb dX0_bringHeld_12 rfl (lv_at hl 0 rfl) ?_
        refine lv_iload_n hx hb dX0_bringHeld_13 rfl (lv_at hl 1 rfl) ?_
        refine lv_iload_n hx hb dX0_bringHeld_14 rfl (lv_at hl 3 rfl) ?_
        obtain ⟨r4, hq4, hf⟩ := ob_some hf
        try dsimp only at hf
        refine kc_i (wr := []) (As := [.int y1, .int y3]) (rest := []) [0, 1, 2] [] [0, 1] 0 0 hCF (okX0_at l hq4) (cwV 2 hts gX0_bringHeld_X0_at rfl rfl rfl ydX0_at ⟨Nat.le_of_ble_eq_true rfl, Nat.le_of_ble_eq_true rfl⟩) hK hP hD hS hA rfl rfl rfl rfl rfl (fun _ h => by cases h) rfl rfl rfl rfl hl.1 rfl (Nat.le_of_ble_eq_true rfl) dX0_bringHeld_15 ⟨Nat.zero_le _, Nat.zero_le _⟩ (fun H locs hP hD hS => ?_)
        have hP : va_P (dC, dI) vwCl (w0 o0 o1 o2 cA cB zs ns ak hd br dp de hn sm) H := hP
        have hD : va_D A (w0 o0 o1 o2 cA cB zs ns ak hd br dp de hn sm) := hD
        refine lv_istore (lv' := [(4, .int r4), (0, .ref o0), (1, .int y1), (2, .int y2), (3, .int y3)]) hx hb dX0_bringHeld_18 hl (by decide) rfl (fun ls hl => ?_)
        refine lv_aload_n hx hb dX0_bringHeld_20 rfl (lv_at hl 1 rfl) ?_
        refine lv_dup hx hb dX0_bringHeld_21 rfl ?_
        refine va_get (D := (dC, dI)) (ci := 0) (v := .long sm) (C := RX0) (T := TX0) (N := 9) hx hb hts hin0 hown hK hP 0 rfl rfl 8 (by decide) hfl97 (fun _ h9 => h9) rfl dX0_bringHeld_22 ?_
        refine lv_iload hx hb dX0_bringHeld_25 (lv_at hl 0 rfl) ?_
        refine lv_i2l hx hb dX0_bringHeld_27 rfl ?_
        refine lv_ladd hx hb dX0_bringHeld_28 ?_
        refine va_put (D := (dC, dI)) (ci := 0) (v := .long (sm + r4.toInt64)) (ty := .long) (C := RX0) (T := TX0) (N := 9) hx hb hts hin0 tyX0 tyX0_ok nmX0 hown hK hP hD hS 0 rfl rfl 8 (by decide) hfl97 (fun _ h9 => h9) rfl (by decide +kernel) rfl rfl (Nat.le_of_ble_eq_true rfl) dX0_bringHeld_29 (fun H locs hP hD hS => ?_)
        have hP : va_P (dC, dI) vwCl (w0 o0 o1 o2 cA cB zs ns ak hd br dp de hn (sm + r4.toInt64)) H := hP
        have hD : va_D A (w0 o0 o1 o2 cA cB zs ns ak hd br dp de hn (sm + r4.toInt64)) := hD
        refine lv_iload_n hx hb dX0_bringHeld_32 rfl (lv_at hl 3 rfl) ?_
        refine lv_if_ne (tgt := 43) hx hb dX0_bringHeld_33 (by decide) (fun c5 => ?_) (fun c5 => ?_)
        · have hf := (if_neg c5).symm.trans hf
          refine lv_iload hx hb dX0_bringHeld_43 (lv_at hl 0 rfl) ?_
          refine lv_if_ge (tgt := 52) hx hb dX0_bringHeld_45 (by decide) (fun c6 => ?_) (fun c6 => ?_)
          · have hf := (if_pos c6).symm.trans hf
            refine lv_iinc (v := y3 + 1) (lv' := [(3, .int (y3 + 1)), (4, .int r4), (0, .ref o0), (1, .int y1), (2, .int y2)]) hx hb dX0_bringHeld_52 hl (k := 4) rfl (congrArg (fun t => y3 + t) (by decide)) (by decide) rfl (fun ls hl => ?_)
            refine lv_goto (tgt := 2) hx hb dX0_bringHeld_55 (by decide) ?_
            exact ih _ _ _ _ _ _ _ _ _ _ _ _ _ _ _ hf hP hD hS (lv_sub hl [2, 3, 4, 0] rfl)
          · have hf := (if_neg c6).symm.trans hf
            refine lv_iload_n hx hb dX0_bringHeld_48 rfl (lv_at hl 4 rfl) ?_
            refine lv_iconst (v := 1) hx hb dX0_bringHeld_49 (by decide) ?_
            refine lv_iadd hx hb dX0_bringHeld_50 ?_
            obtain ⟨hv, hu⟩ := os_pair hf
            subst hu
            exact W.iret (v := y3 + 1) hx hb hr (fun t ht hW => k_endi hv hP hK hD hS ht hW) hS.2.2 dX0_bringHeld_51
        · have hf := (if_pos c5).symm.trans hf
          refine lv_aload_n hx hb dX0_bringHeld_36 rfl (lv_at hl 1 rfl) ?_
          refine lv_iload_n hx hb dX0_bringHeld_37 rfl (lv_at hl 2 rfl) ?_
          refine lv_iload_n hx hb dX0_bringHeld_38 rfl (lv_at hl 4 rfl) ?_
          refine lv_iconst (v := 0) hx hb dX0_bringHeld_39 (by decide) ?_
          obtain ⟨⟨zs7, ns7, ak7, hd7, br7, dp7, de7, hn7, sm7⟩, hq7, hf⟩ := ob_some hf
          try dsimp only at hf
          refine kc_v (wr := []) (As := [.int y1, .int y3, .int 0]) (rest := []) [0, 1, 2] [] [0, 1] 0 0 hCF (okX0_put l hq7) (cwV 3 hts gX0_bringHeld_X0_put rfl rfl rfl ydX0_put ⟨Nat.le_of_ble_eq_true rfl, Nat.le_of_ble_eq_true rfl⟩) hK hP hD hS hA rfl rfl rfl rfl rfl (fun _ h => by cases h) rfl rfl rfl rfl hl.1 rfl (Nat.le_of_ble_eq_true rfl) dX0_bringHeld_40 ⟨Nat.zero_le _, Nat.zero_le _⟩ (fun H locs hP hD hS => ?_)
          have hP : va_P (dC, dI) vwCl (w0 o0 o1 o2 cA cB zs7 ns7 ak7 hd7 br7 dp7 de7 hn7 sm7) H := hP
          have hD : va_D A (w0 o0 o1 o2 cA cB zs7 ns7 ak7 hd7 br7 dp7 de7 hn7 sm7) := hD
          refine lv_iload hx hb dX0_bringHeld_43 (lv_at hl 0 rfl) ?_
          refine lv_if_ge (tgt := 52) hx hb dX0_bringHeld_45 (by decide) (fun c8 => ?_) (fun c8 => ?_)
          · have hf := (if_pos c8).symm.trans hf
            refine lv_iinc (v := y3 + 1) (lv' := [(3, .int (y3 + 1)), (4, .int r4), (0, .ref o0), (1, .int y1), (2, .int y2)]) hx hb dX0_bringHeld_52 hl (k := 4) rfl (congrArg (fun t => y3 + t) (by decide)) (by decide) rfl (fun ls hl => ?_)
            refine lv_goto (tgt := 2) hx hb dX0_bringHeld_55 (by decide) ?_
            exact ih _ _ _ _ _ _ _ _ _ _ _ _ _ _ _ hf hP hD hS (lv_sub hl [2, 3, 4, 0] rfl)
          · have hf := (if_neg c8).symm.trans hf
            refine lv_iload_n hx hb dX0_bringHeld_48 rfl (lv_at hl 4 rfl) ?_
            refine lv_iconst (v := 1) hx hb dX0_bringHeld_49 (by decide) ?_
            refine lv_iadd hx hb dX0_bringHeld_50 ?_
            obtain ⟨hv, hu⟩ := os_pair hf
            subst hu
            exact W.iret (v := y3 + 1) hx hb hr (fun t ht hW => k_endi hv hP hK hD hS ht hW) hS.2.2 dX0_bringHeld_51
  have hl := lv_entry ([.ref o0, .int x1, .int x2]) (n := 5) (Nat.le_of_ble_eq_true rfl)
  rw [lg_entry_eq]
  generalize (lg_sl ([.ref o0, .int x1, .int x2]) ++ List.replicate (5 - (lg_sl ([.ref o0, .int x1, .int x2])).length) Slot.unset).toArray = ls at hl ⊢
  have hl : lv_has ls 5 [(0, .ref o0), (1, .int x1), (2, .int x2)] := hl
  refine lv_iconst (v := 0) hx hb dX0_bringHeld_0 (by decide) ?_
  refine lv_istore_n (lv' := [(3, .int 0), (0, .ref o0), (1, .int x1), (2, .int x2)]) hx hb dX0_bringHeld_1 rfl hl (by decide) rfl (fun ls hl => ?_)
  exact loop2 9 _ _ _ _ _ _ _ _ _ _ _ _ _ _ _ hf hP hD hS (lv_sub hl [1, 2, 3, 0] rfl)
