/-! contracts, by program (wip/gen.py) -/
set_option maxHeartbeats 4000000 in
set_option maxRecDepth 100000 in
theorem okX0_open (l : Launch) {dC : Nat → ClassId} {dI : Nat → Nat → Nat} {o0 o1 o2 : Nat} {cA cB : ClassId} {sz : Nat} {x1 x2 : Int32} {zs0 ns0 : Nat → Int32} {ak0 hd0 br0 dp0 de0 hn0 : Int32} {sm0 : Int64} {r : Int32} {st2 : S0} (hf : fX0_open x1 x2 zs0 ns0 ak0 hd0 br0 dp0 de0 hn0 sm0 = some (r, st2)) : kMi l yX0_open wsX0_open ({ frames := 2, cells := 0, slots := 0, locals := 41 }) (dC, dI) vwCl [(cA, .int), (cB, .int)] (w0 o0 o1 o2 cA cB zs0 ns0 ak0 hd0 br0 dp0 de0 hn0 sm0) (w0t o0 o1 o2 cA cB st2) [.ref o0, .int x1, .int x2] sz r := by
  rw [fX0_open] at hf
  refine Met.ofW (cc := cX0_open) (maxL := 4) (ret := (some .int)) (by decide) rfl ?_
  intro p e s m args below meth c s₁ B hml hv
  obtain ⟨rfl, hsz, hP, hK, hD0⟩ := hv
  have hx := B.exec
  have hb := B.bytes
  have hr := B.returns
  have hts := atoms_spec (ws := wsX0_open) B.pre
  have hown : s.vm.findClass RX0 = some m.cls := findClass_of_methodNamed B.named
  have hlocks := B.notSynchronized
  subst hsz
  have hD := hD0.self (sz := s.heap.size)
  generalize hAe : va_A (w0 o0 o1 o2 cA cB zs0 ns0 ak0 hd0 br0 dp0 de0 hn0 sm0) s.heap.size = A at hD ⊢
  have hA : ∀ q : Nat, s.heap.size ≤ q → A q := fun q h => by rw [← hAe]; exact Or.inr h
  have hS : va_S A s.heap s.heap [] := va_S.rf
  have hin0 : ∀ w ∈ wsX00, w ∈ wsX0_open := fun w h => List.mem_cons_of_mem _ (List.mem_append_right _ h)
  have hfl9 := hts (.fieldLink RX0 9 "CountRoom" "sizes" "[I") (by decide +kernel)
  have hCF : CallFix p m c cX0_open 4 s _ wsX0_open RX0 := ⟨hx, hb, hml, hown, hts⟩
  have loop40 : ∀ (k : Nat) (y1 y2 y3 : Int32) (zs ns : Nat → Int32) (ak hd br dp de hn : Int32) (sm : Int64) (H : Heap) (locs : List Loc) (ls : Array Slot), fX0_open_40 k y1 y2 y3 zs ns ak hd br dp de hn sm = some (r, st2) → va_P (dC, dI) vwCl (w0 o0 o1 o2 cA cB zs ns ak hd br dp de hn sm) H → va_D A (w0 o0 o1 o2 cA cB zs ns ak hd br dp de hn sm) → va_S A s.heap H locs → lv_has ls 4 [(0, .ref o0), (1, .int y1), (2, .int y2), (3, .int y3)] → W p l e (headSpec wsX0_open ({ frames := 2, cells := 0, slots := 0, locals := 41 })).room s m ([.ref o0, .int x1, .int x2] : List Value).toArray below meth c H locs 0 0 (MQ below (va_Qi (fun (r2 : Int32) (_ : Unit) => r2 = r) (k_out (dC, dI) vwCl [(cA, .int), (cB, .int)] A (w0t o0 o1 o2 cA cB st2)) A) ([.ref o0, .int x1, .int x2] : List Value).toArray s 0 0 A) (F0 m 40 ls []) := by
    intro k
    induction k with
    | zero => intro y1 y2 y3 zs ns ak hd br dp de hn sm H locs ls hf; cases hf
    | succ k ih =>
      intro y1 y2 y3 zs ns ak hd br dp de hn sm H locs ls hf hP hD hS hl
      rw [fX0_open_40] at hf
      refine lv_iload_n hx hb dX0_open_40 rfl (lv_at hl 3 rfl) ?_
      refine lv_iload_n hx hb dX0_open_41 rfl (lv_at hl 2 rfl) ?_
      refine lv_icmp_ge (tgt := 58) hx hb dX0_open_42 (by decide) (fun c8 => ?_) (fun c8 => ?_)
      · have hf := (if_pos c8).symm.trans hf
        refine lv_iconst (v := 1) hx hb dX0_open_58 (by decide) ?_
        obtain ⟨hv, hu⟩ := os_pair hf
        subst hu
        exact W.iret (v := 1) hx hb hr (fun t ht hW => k_endi hv hP hK hD hS ht hW) hS.2.2 dX0_open_59
      · have hf := (if_neg c8).symm.trans hf
        refine lv_aload_n hx hb dX0_open_45 rfl (lv_at hl 0 rfl) ?_
        refine lv_iload_n hx hb dX0_open_46 rfl (lv_at hl 1 rfl) ?_
        refine lv_iload_n hx hb dX0_open_47 rfl (lv_at hl 3 rfl) ?_
        refine lv_iconst (v := 0) hx hb dX0_open_48 (by decide) ?_
        obtain ⟨⟨zs9, ns9, ak9, hd9, br9, dp9, de9, hn9, sm9⟩, hq9, hf⟩ := ob_some hf
        try dsimp only at hf
        refine kc_v (wr := []) (As := [.int y1, .int y3, .int 0]) (rest := []) [0, 1, 2] [] [0, 1] 0 0 hCF (okX0_put l hq9) (cwV 3 hts gX0_open_X0_put rfl rfl rfl ydX0_put ⟨Nat.le_of_ble_eq_true rfl, Nat.le_of_ble_eq_true rfl⟩) hK hP hD hS hA rfl rfl rfl rfl rfl (fun _ h => by cases h) rfl rfl rfl rfl hl.1 rfl (Nat.le_of_ble_eq_true rfl) dX0_open_49 ⟨Nat.zero_le _, Nat.zero_le _⟩ (fun H locs hP hD hS => ?_)
        have hP : va_P (dC, dI) vwCl (w0 o0 o1 o2 cA cB zs9 ns9 ak9 hd9 br9 dp9 de9 hn9 sm9) H := hP
        have hD : va_D A (w0 o0 o1 o2 cA cB zs9 ns9 ak9 hd9 br9 dp9 de9 hn9 sm9) := hD
        refine lv_iinc (v := y3 + 1) (lv' := [(3, .int (y3 + 1)), (0, .ref o0), (1, .int y1), (2, .int y2)]) hx hb dX0_open_52 hl (k := 3) rfl (congrArg (fun t => y3 + t) (by decide)) (by decide) rfl (fun ls hl => ?_)
        refine lv_goto (tgt := 40) hx hb dX0_open_55 (by decide) ?_
        exact ih _ _ _ _ _ _ _ _ _ _ _ _ _ _ _ hf hP hD hS (lv_sub hl [1, 2, 3, 0] rfl)
  have hl := lv_entry ([.ref o0, .int x1, .int x2]) (n := 4) (Nat.le_of_ble_eq_true rfl)
  rw [lg_entry_eq]
  generalize (lg_sl ([.ref o0, .int x1, .int x2]) ++ List.replicate (4 - (lg_sl ([.ref o0, .int x1, .int x2])).length) Slot.unset).toArray = ls at hl ⊢
  have hl : lv_has ls 4 [(0, .ref o0), (1, .int x1), (2, .int x2)] := hl
  refine lv_iload_n hx hb dX0_open_0 rfl (lv_at hl 1 rfl) ?_
  obtain ⟨r1, hq1, hf⟩ := ob_some hf
  try dsimp only at hf
  refine ks_i (wr := w0 o0 o1 o2 cA cB zs0 ns0 ak0 hd0 br0 dp0 de0 hn0 sm0) (As := [.int x1]) (rest := []) [0, 1, 2] hCF (okX0_isDesk l hq1) (va_cwS 1 hts gX0_open_X0_isDesk rfl rfl rfl ydX0_isDesk ⟨Nat.le_of_ble_eq_true rfl, Nat.le_of_ble_eq_true rfl⟩) hK hP hD hS hA rfl rfl rfl hl.1 rfl (Nat.le_of_ble_eq_true rfl) dX0_open_1 ⟨Nat.zero_le _, Nat.zero_le _⟩ (fun H locs hP hD hS => ?_)
  have hP : va_P (dC, dI) vwCl (w0 o0 o1 o2 cA cB zs0 ns0 ak0 hd0 br0 dp0 de0 hn0 sm0) H := hP
  have hD : va_D A (w0 o0 o1 o2 cA cB zs0 ns0 ak0 hd0 br0 dp0 de0 hn0 sm0) := hD
  refine lv_if_eq (tgt := 18) hx hb dX0_open_4 (by decide) (fun c2 => ?_) (fun c2 => ?_)
  · have hf := (if_pos c2).symm.trans hf
    refine lv_bipush (v := (-2)) hx hb dX0_open_18 (by decide) ?_
    obtain ⟨hv, hu⟩ := os_pair hf
    subst hu
    exact W.iret (v := (-2)) hx hb hr (fun t ht hW => k_endi hv hP hK hD hS ht hW) hS.2.2 dX0_open_20
  · have hf := (if_neg c2).symm.trans hf
    refine lv_iload_n hx hb dX0_open_7 rfl (lv_at hl 2 rfl) ?_
    refine lv_iconst (v := 1) hx hb dX0_open_8 (by decide) ?_
    refine lv_icmp_lt (tgt := 18) hx hb dX0_open_9 (by decide) (fun c3 => ?_) (fun c3 => ?_)
    · have hf := (if_pos c3).symm.trans hf
      refine lv_bipush (v := (-2)) hx hb dX0_open_18 (by decide) ?_
      obtain ⟨hv, hu⟩ := os_pair hf
      subst hu
      exact W.iret (v := (-2)) hx hb hr (fun t ht hW => k_endi hv hP hK hD hS ht hW) hS.2.2 dX0_open_20
    · have hf := (if_neg c3).symm.trans hf
      refine lv_iload_n hx hb dX0_open_12 rfl (lv_at hl 2 rfl) ?_
      refine lv_bipush (v := 8) hx hb dX0_open_13 (by decide) ?_
      refine lv_icmp_le (tgt := 21) hx hb dX0_open_15 (by decide) (fun c4 => ?_) (fun c4 => ?_)
      · have hf := (if_pos c4).symm.trans hf
        refine lv_aload_n hx hb dX0_open_21 rfl (lv_at hl 0 rfl) ?_
        refine lv_iload_n hx hb dX0_open_22 rfl (lv_at hl 1 rfl) ?_
        obtain ⟨r5, hq5, hf⟩ := ob_some hf
        try dsimp only at hf
        refine kc_i (wr := []) (As := [.int x1]) (rest := []) [0, 1, 2] [] [0, 1] 0 0 hCF (okX0_isThere l hq5) (cwV 1 hts gX0_open_X0_isThere rfl rfl rfl ydX0_isThere ⟨Nat.le_of_ble_eq_true rfl, Nat.le_of_ble_eq_true rfl⟩) hK hP hD hS hA rfl rfl rfl rfl rfl (fun _ h => by cases h) rfl rfl rfl rfl hl.1 rfl (Nat.le_of_ble_eq_true rfl) dX0_open_23 ⟨Nat.zero_le _, Nat.zero_le _⟩ (fun H locs hP hD hS => ?_)
        have hP : va_P (dC, dI) vwCl (w0 o0 o1 o2 cA cB zs0 ns0 ak0 hd0 br0 dp0 de0 hn0 sm0) H := hP
        have hD : va_D A (w0 o0 o1 o2 cA cB zs0 ns0 ak0 hd0 br0 dp0 de0 hn0 sm0) := hD
        refine lv_if_eq (tgt := 31) hx hb dX0_open_26 (by decide) (fun c6 => ?_) (fun c6 => ?_)
        · have hf := (if_pos c6).symm.trans hf
          refine lv_aload_n hx hb dX0_open_31 rfl (lv_at hl 0 rfl) ?_
          refine va_get (D := (dC, dI)) (ci := 0) (v := .ref o1) (C := RX0) (T := TX0) (N := 9) hx hb hts hin0 hown hK hP 0 rfl rfl 0 (by decide) hfl9 (fun _ h9 => h9) rfl dX0_open_32 ?_
          refine lv_iload_n hx hb dX0_open_35 rfl (lv_at hl 1 rfl) ?_
          refine lv_iload_n hx hb dX0_open_36 rfl (lv_at hl 2 rfl) ?_
          obtain ⟨hi7, hf⟩ := og_no hf
          refine va_iast hx hb hK hP hD hS 1 0 rfl rfl hi7 dX0_open_37 (fun H locs hP hD hS => ?_)
          have hP : va_P (dC, dI) vwCl (w0 o0 o1 o2 cA cB (upd zs0 x1.toNatClampNeg x2) ns0 ak0 hd0 br0 dp0 de0 hn0 sm0) H := hP
          have hD : va_D A (w0 o0 o1 o2 cA cB (upd zs0 x1.toNatClampNeg x2) ns0 ak0 hd0 br0 dp0 de0 hn0 sm0) := hD
          refine lv_iconst (v := 0) hx hb dX0_open_38 (by decide) ?_
          refine lv_istore_n (lv' := [(3, .int 0), (0, .ref o0), (1, .int x1), (2, .int x2)]) hx hb dX0_open_39 rfl hl (by decide) rfl (fun ls hl => ?_)
          exact loop40 9 _ _ _ _ _ _ _ _ _ _ _ _ _ _ _ hf hP hD hS (lv_sub hl [1, 2, 3, 0] rfl)
        · have hf := (if_neg c6).symm.trans hf
          refine lv_iconst (v := 0) hx hb dX0_open_29 (by decide) ?_
          obtain ⟨hv, hu⟩ := os_pair hf
          subst hu
          exact W.iret (v := 0) hx hb hr (fun t ht hW => k_endi hv hP hK hD hS ht hW) hS.2.2 dX0_open_30
      · have hf := (if_neg c4).symm.trans hf
        refine lv_bipush (v := (-2)) hx hb dX0_open_18 (by decide) ?_
        obtain ⟨hv, hu⟩ := os_pair hf
        subst hu
        exact W.iret (v := (-2)) hx hb hr (fun t ht hW => k_endi hv hP hK hD hS ht hW) hS.2.2 dX0_open_20
set_option maxHeartbeats 4000000 in
set_option maxRecDepth 100000 in
theorem okX0_close (l : Launch) {dC : Nat → ClassId} {dI : Nat → Nat → Nat} {o0 o1 o2 : Nat} {cA cB : ClassId} {sz : Nat} {x1 : Int32} {zs0 ns0 : Nat → Int32} {ak0 hd0 br0 dp0 de0 hn0 : Int32} {sm0 : Int64} {r : Int32} {st2 : S0} (hf : fX0_close x1 zs0 ns0 ak0 hd0 br0 dp0 de0 hn0 sm0 = some (r, st2)) : kMi l yX0_close wsX0_close ({ frames := 2, cells := 0, slots := 0, locals := 41 }) (dC, dI) vwCl [(cA, .int), (cB, .int)] (w0 o0 o1 o2 cA cB zs0 ns0 ak0 hd0 br0 dp0 de0 hn0 sm0) (w0t o0 o1 o2 cA cB st2) [.ref o0, .int x1] sz r := by
  rw [fX0_close] at hf
  refine Met.ofW (cc := cX0_close) (maxL := 2) (ret := (some .int)) (by decide) rfl ?_
  intro p e s m args below meth c s₁ B hml hv
  obtain ⟨rfl, hsz, hP, hK, hD0⟩ := hv
  have hx := B.exec
  have hb := B.bytes
  have hr := B.returns
  have hts := atoms_spec (ws := wsX0_close) B.pre
  have hown : s.vm.findClass RX0 = some m.cls := findClass_of_methodNamed B.named
  have hlocks := B.notSynchronized
  subst hsz
  have hD := hD0.self (sz := s.heap.size)
  generalize hAe : va_A (w0 o0 o1 o2 cA cB zs0 ns0 ak0 hd0 br0 dp0 de0 hn0 sm0) s.heap.size = A at hD ⊢
  have hA : ∀ q : Nat, s.heap.size ≤ q → A q := fun q h => by rw [← hAe]; exact Or.inr h
  have hS : va_S A s.heap s.heap [] := va_S.rf
  have hin0 : ∀ w ∈ wsX00, w ∈ wsX0_close := fun w h => List.mem_cons_of_mem _ (List.mem_append_right _ h)
  have hfl9 := hts (.fieldLink RX0 9 "CountRoom" "sizes" "[I") (by decide +kernel)
  have hCF : CallFix p m c cX0_close 2 s _ wsX0_close RX0 := ⟨hx, hb, hml, hown, hts⟩
  have hl := lv_entry ([.ref o0, .int x1]) (n := 2) (Nat.le_of_ble_eq_true rfl)
  rw [lg_entry_eq]
  generalize (lg_sl ([.ref o0, .int x1]) ++ List.replicate (2 - (lg_sl ([.ref o0, .int x1])).length) Slot.unset).toArray = ls at hl ⊢
  have hl : lv_has ls 2 [(0, .ref o0), (1, .int x1)] := hl
  refine lv_iload_n hx hb dX0_close_0 rfl (lv_at hl 1 rfl) ?_
  obtain ⟨r1, hq1, hf⟩ := ob_some hf
  try dsimp only at hf
  refine ks_i (wr := w0 o0 o1 o2 cA cB zs0 ns0 ak0 hd0 br0 dp0 de0 hn0 sm0) (As := [.int x1]) (rest := []) [0, 1, 2] hCF (okX0_isDesk l hq1) (va_cwS 1 hts gX0_close_X0_isDesk rfl rfl rfl ydX0_isDesk ⟨Nat.le_of_ble_eq_true rfl, Nat.le_of_ble_eq_true rfl⟩) hK hP hD hS hA rfl rfl rfl hl.1 rfl (Nat.le_of_ble_eq_true rfl) dX0_close_1 ⟨Nat.zero_le _, Nat.zero_le _⟩ (fun H locs hP hD hS => ?_)
  have hP : va_P (dC, dI) vwCl (w0 o0 o1 o2 cA cB zs0 ns0 ak0 hd0 br0 dp0 de0 hn0 sm0) H := hP
  have hD : va_D A (w0 o0 o1 o2 cA cB zs0 ns0 ak0 hd0 br0 dp0 de0 hn0 sm0) := hD
  refine lv_if_ne (tgt := 10) hx hb dX0_close_4 (by decide) (fun c2 => ?_) (fun c2 => ?_)
  · have hf := (if_neg c2).symm.trans hf
    refine lv_aload_n hx hb dX0_close_10 rfl (lv_at hl 0 rfl) ?_
    refine lv_iload_n hx hb dX0_close_11 rfl (lv_at hl 1 rfl) ?_
    obtain ⟨r3, hq3, hf⟩ := ob_some hf
    try dsimp only at hf
    refine kc_i (wr := []) (As := [.int x1]) (rest := []) [0, 1, 2] [] [0, 1] 0 0 hCF (okX0_isThere l hq3) (cwV 1 hts gX0_close_X0_isThere rfl rfl rfl ydX0_isThere ⟨Nat.le_of_ble_eq_true rfl, Nat.le_of_ble_eq_true rfl⟩) hK hP hD hS hA rfl rfl rfl rfl rfl (fun _ h => by cases h) rfl rfl rfl rfl hl.1 rfl (Nat.le_of_ble_eq_true rfl) dX0_close_12 ⟨Nat.zero_le _, Nat.zero_le _⟩ (fun H locs hP hD hS => ?_)
    have hP : va_P (dC, dI) vwCl (w0 o0 o1 o2 cA cB zs0 ns0 ak0 hd0 br0 dp0 de0 hn0 sm0) H := hP
    have hD : va_D A (w0 o0 o1 o2 cA cB zs0 ns0 ak0 hd0 br0 dp0 de0 hn0 sm0) := hD
    refine lv_if_ne (tgt := 20) hx hb dX0_close_15 (by decide) (fun c4 => ?_) (fun c4 => ?_)
    · have hf := (if_neg c4).symm.trans hf
      refine lv_aload_n hx hb dX0_close_20 rfl (lv_at hl 0 rfl) ?_
      refine va_get (D := (dC, dI)) (ci := 0) (v := .ref o1) (C := RX0) (T := TX0) (N := 9) hx hb hts hin0 hown hK hP 0 rfl rfl 0 (by decide) hfl9 (fun _ h9 => h9) rfl dX0_close_21 ?_
      refine lv_iload_n hx hb dX0_close_24 rfl (lv_at hl 1 rfl) ?_
      refine lv_iconst (v := 0) hx hb dX0_close_25 (by decide) ?_
      obtain ⟨hi5, hf⟩ := og_no hf
      refine va_iast hx hb hK hP hD hS 1 0 rfl rfl hi5 dX0_close_26 (fun H locs hP hD hS => ?_)
      have hP : va_P (dC, dI) vwCl (w0 o0 o1 o2 cA cB (upd zs0 x1.toNatClampNeg 0) ns0 ak0 hd0 br0 dp0 de0 hn0 sm0) H := hP
      have hD : va_D A (w0 o0 o1 o2 cA cB (upd zs0 x1.toNatClampNeg 0) ns0 ak0 hd0 br0 dp0 de0 hn0 sm0) := hD
      refine lv_iconst (v := 1) hx hb dX0_close_27 (by decide) ?_
      obtain ⟨hv, hu⟩ := os_pair hf
      subst hu
      exact W.iret (v := 1) hx hb hr (fun t ht hW => k_endi hv hP hK hD hS ht hW) hS.2.2 dX0_close_28
    · have hf := (if_pos c4).symm.trans hf
      refine lv_iconst (v := 0) hx hb dX0_close_18 (by decide) ?_
      obtain ⟨hv, hu⟩ := os_pair hf
      subst hu
      exact W.iret (v := 0) hx hb hr (fun t ht hW => k_endi hv hP hK hD hS ht hW) hS.2.2 dX0_close_19
  · have hf := (if_pos c2).symm.trans hf
    refine lv_bipush (v := (-2)) hx hb dX0_close_7 (by decide) ?_
    obtain ⟨hv, hu⟩ := os_pair hf
    subst hu
    exact W.iret (v := (-2)) hx hb hr (fun t ht hW => k_endi hv hP hK hD hS ht hW) hS.2.2 dX0_close_9
set_option maxHeartbeats 4000000 in
set_option maxRecDepth 100000 in
theorem okX0_write (l : Launch) {dC : Nat → ClassId} {dI : Nat → Nat → Nat} {o0 o1 o2 : Nat} {cA cB : ClassId} {sz : Nat} {x1 x2 x3 : Int32} {zs0 ns0 : Nat → Int32} {ak0 hd0 br0 dp0 de0 hn0 : Int32} {sm0 : Int64} {r : Int32} {st2 : S0} (hf : fX0_write x1 x2 x3 zs0 ns0 ak0 hd0 br0 dp0 de0 hn0 sm0 = some (r, st2)) : kMi l yX0_write wsX0_write ({ frames := 3, cells := 0, slots := 0, locals := 65 }) (dC, dI) vwCl [(cA, .int), (cB, .int)] (w0 o0 o1 o2 cA cB zs0 ns0 ak0 hd0 br0 dp0 de0 hn0 sm0) (w0t o0 o1 o2 cA cB st2) [.ref o0, .int x1, .int x2, .int x3] sz r := by
  rw [fX0_write] at hf
  refine Met.ofW (cc := cX0_write) (maxL := 4) (ret := (some .int)) (by decide) rfl ?_
  intro p e s m args below meth c s₁ B hml hv
  obtain ⟨rfl, hsz, hP, hK, hD0⟩ := hv
  have hx := B.exec
  have hb := B.bytes
  have hr := B.returns
  have hts := atoms_spec (ws := wsX0_write) B.pre
  have hown : s.vm.findClass RX0 = some m.cls := findClass_of_methodNamed B.named
  have hlocks := B.notSynchronized
  subst hsz
  have hD := hD0.self (sz := s.heap.size)
  generalize hAe : va_A (w0 o0 o1 o2 cA cB zs0 ns0 ak0 hd0 br0 dp0 de0 hn0 sm0) s.heap.size = A at hD ⊢
  have hA : ∀ q : Nat, s.heap.size ≤ q → A q := fun q h => by rw [← hAe]; exact Or.inr h
  have hS : va_S A s.heap s.heap [] := va_S.rf
  have hin0 : ∀ w ∈ wsX00, w ∈ wsX0_write := fun w h => List.mem_cons_of_mem _ (List.mem_append_right _ h)
  have hCF : CallFix p m c cX0_write 4 s _ wsX0_write RX0 := ⟨hx, hb, hml, hown, hts⟩
  have hl := lv_entry ([.ref o0, .int x1, .int x2, .int x3]) (n := 4) (Nat.le_of_ble_eq_true rfl)
  rw [lg_entry_eq]
  generalize (lg_sl ([.ref o0, .int x1, .int x2, .int x3]) ++ List.replicate (4 - (lg_sl ([.ref o0, .int x1, .int x2, .int x3])).length) Slot.unset).toArray = ls at hl ⊢
  have hl : lv_has ls 4 [(0, .ref o0), (1, .int x1), (2, .int x2), (3, .int x3)] := hl
  refine lv_iload_n hx hb dX0_write_0 rfl (lv_at hl 1 rfl) ?_
  obtain ⟨r1, hq1, hf⟩ := ob_some hf
  try dsimp only at hf
  refine ks_i (wr := w0 o0 o1 o2 cA cB zs0 ns0 ak0 hd0 br0 dp0 de0 hn0 sm0) (As := [.int x1]) (rest := []) [0, 1, 2] hCF (okX0_isDesk l hq1) (va_cwS 1 hts gX0_write_X0_isDesk rfl rfl rfl ydX0_isDesk ⟨Nat.le_of_ble_eq_true rfl, Nat.le_of_ble_eq_true rfl⟩) hK hP hD hS hA rfl rfl rfl hl.1 rfl (Nat.le_of_ble_eq_true rfl) dX0_write_1 ⟨Nat.zero_le _, Nat.zero_le _⟩ (fun H locs hP hD hS => ?_)
  have hP : va_P (dC, dI) vwCl (w0 o0 o1 o2 cA cB zs0 ns0 ak0 hd0 br0 dp0 de0 hn0 sm0) H := hP
  have hD : va_D A (w0 o0 o1 o2 cA cB zs0 ns0 ak0 hd0 br0 dp0 de0 hn0 sm0) := hD
  refine lv_if_ne (tgt := 10) hx hb dX0_write_4 (by decide) (fun c2 => ?_) (fun c2 => ?_)
  · have hf := (if_neg c2).symm.trans hf
    refine lv_aload_n hx hb dX0_write_10 rfl (lv_at hl 0 rfl) ?_
    refine lv_iload_n hx hb dX0_write_11 rfl (lv_at hl 1 rfl) ?_
    obtain ⟨⟨r3, zs3, ns3, ak3, hd3, br3, dp3, de3, hn3, sm3⟩, hq3, hf⟩ := ob_some hf
    try dsimp only at hf
    refine kc_i (wr := []) (As := [.int x1]) (rest := []) [0, 1, 2] [] [0, 1] 0 0 hCF (okX0_hold l hq3) (cwV 1 hts gX0_write_X0_hold rfl rfl rfl ydX0_hold ⟨Nat.le_of_ble_eq_true rfl, Nat.le_of_ble_eq_true rfl⟩) hK hP hD hS hA rfl rfl rfl rfl rfl (fun _ h => by cases h) rfl rfl rfl rfl hl.1 rfl (Nat.le_of_ble_eq_true rfl) dX0_write_12 ⟨Nat.zero_le _, Nat.zero_le _⟩ (fun H locs hP hD hS => ?_)
    have hP : va_P (dC, dI) vwCl (w0 o0 o1 o2 cA cB zs3 ns3 ak3 hd3 br3 dp3 de3 hn3 sm3) H := hP
    have hD : va_D A (w0 o0 o1 o2 cA cB zs3 ns3 ak3 hd3 br3 dp3 de3 hn3 sm3) := hD
    refine lv_if_ne (tgt := 21) hx hb dX0_write_15 (by decide) (fun c4 => ?_) (fun c4 => ?_)
    · have hf := (if_neg c4).symm.trans hf
      refine lv_aload_n hx hb dX0_write_21 rfl (lv_at hl 0 rfl) ?_
      refine lv_aload_n hx hb dX0_write_22 rfl (lv_at hl 0 rfl) ?_
      refine lv_iload_n hx hb dX0_write_23 rfl (lv_at hl 1 rfl) ?_
      refine lv_iload_n hx hb dX0_write_24 rfl (lv_at hl 2 rfl) ?_
      refine lv_iload_n hx hb dX0_write_25 rfl (lv_at hl 3 rfl) ?_
      obtain ⟨⟨r5, zs5, ns5, ak5, hd5, br5, dp5, de5, hn5, sm5⟩, hq5, hf⟩ := ob_some hf
      try dsimp only at hf
      refine kc_i (wr := []) (As := [.int x1, .int x2, .int x3]) (rest := [.ref o0]) [0, 1, 2] [] [0, 1] 0 0 hCF (okX0_writeHeld l hq5) (cwV 3 hts gX0_write_X0_writeHeld rfl rfl rfl ydX0_writeHeld ⟨Nat.le_of_ble_eq_true rfl, Nat.le_of_ble_eq_true rfl⟩) hK hP hD hS hA rfl rfl rfl rfl rfl (fun _ h => by cases h) rfl rfl rfl rfl hl.1 rfl (Nat.le_of_ble_eq_true rfl) dX0_write_26 ⟨Nat.zero_le _, Nat.zero_le _⟩ (fun H locs hP hD hS => ?_)
      have hP : va_P (dC, dI) vwCl (w0 o0 o1 o2 cA cB zs5 ns5 ak5 hd5 br5 dp5 de5 hn5 sm5) H := hP
      have hD : va_D A (w0 o0 o1 o2 cA cB zs5 ns5 ak5 hd5 br5 dp5 de5 hn5 sm5) := hD
      obtain ⟨⟨r6, zs6, ns6, ak6, hd6, br6, dp6, de6, hn6, sm6⟩, hq6, hf⟩ := ob_some hf
      try dsimp only at hf
      refine kc_i (wr := []) (As := [.int r5]) (rest := []) [0, 1, 2] [] [0, 1] 0 0 hCF (okX0_release l hq6) (cwV 1 hts gX0_write_X0_release rfl rfl rfl ydX0_release ⟨Nat.le_of_ble_eq_true rfl, Nat.le_of_ble_eq_true rfl⟩) hK hP hD hS hA rfl rfl rfl rfl rfl (fun _ h => by cases h) rfl rfl rfl rfl hl.1 rfl (Nat.le_of_ble_eq_true rfl) dX0_write_29 ⟨Nat.zero_le _, Nat.zero_le _⟩ (fun H locs hP hD hS => ?_)
      have hP : va_P (dC, dI) vwCl (w0 o0 o1 o2 cA cB zs6 ns6 ak6 hd6 br6 dp6 de6 hn6 sm6) H := hP
      have hD : va_D A (w0 o0 o1 o2 cA cB zs6 ns6 ak6 hd6 br6 dp6 de6 hn6 sm6) := hD
      obtain ⟨hv, hu⟩ := os_pair hf
      subst hu
      exact W.iret (v := r6) hx hb hr (fun t ht hW => k_endi hv hP hK hD hS ht hW) hS.2.2 dX0_write_32
    · have hf := (if_pos c4).symm.trans hf
      refine lv_bipush (v := (-11)) hx hb dX0_write_18 (by decide) ?_
      obtain ⟨hv, hu⟩ := os_pair hf
      subst hu
      exact W.iret (v := (-11)) hx hb hr (fun t ht hW => k_endi hv hP hK hD hS ht hW) hS.2.2 dX0_write_20
  · have hf := (if_pos c2).symm.trans hf
    refine lv_bipush (v := (-2)) hx hb dX0_write_7 (by decide) ?_
    obtain ⟨hv, hu⟩ := os_pair hf
    subst hu
    exact W.iret (v := (-2)) hx hb hr (fun t ht hW => k_endi hv hP hK hD hS ht hW) hS.2.2 dX0_write_9
set_option maxHeartbeats 4000000 in
set_option maxRecDepth 100000 in
theorem okX0_share (l : Launch) {dC : Nat → ClassId} {dI : Nat → Nat → Nat} {o0 o1 o2 : Nat} {cA cB : ClassId} {sz : Nat} {x1 x2 x3 : Int32} {zs0 ns0 : Nat → Int32} {ak0 hd0 br0 dp0 de0 hn0 : Int32} {sm0 : Int64} {r : Int32} {st2 : S0} (hf : fX0_share x1 x2 x3 zs0 ns0 ak0 hd0 br0 dp0 de0 hn0 sm0 = some (r, st2)) : kMi l yX0_share wsX0_share ({ frames := 4, cells := 0, slots := 0, locals := 90 }) (dC, dI) vwCl [(cA, .int), (cB, .int)] (w0 o0 o1 o2 cA cB zs0 ns0 ak0 hd0 br0 dp0 de0 hn0 sm0) (w0t o0 o1 o2 cA cB st2) [.ref o0, .int x1, .int x2, .int x3] sz r := by
  rw [fX0_share] at hf
  refine Met.ofW (cc := cX0_share) (maxL := 4) (ret := (some .int)) (by decide) rfl ?_
  intro p e s m args below meth c s₁ B hml hv
  obtain ⟨rfl, hsz, hP, hK, hD0⟩ := hv
  have hx := B.exec
  have hb := B.bytes
  have hr := B.returns
  have hts := atoms_spec (ws := wsX0_share) B.pre
  have hown : s.vm.findClass RX0 = some m.cls := findClass_of_methodNamed B.named
  have hlocks := B.notSynchronized
  subst hsz
  have hD := hD0.self (sz := s.heap.size)
  generalize hAe : va_A (w0 o0 o1 o2 cA cB zs0 ns0 ak0 hd0 br0 dp0 de0 hn0 sm0) s.heap.size = A at hD ⊢
  have hA : ∀ q : Nat, s.heap.size ≤ q → A q := fun q h => by rw [← hAe]; exact Or.inr h
  have hS : va_S A s.heap s.heap [] := va_S.rf
  have hin0 : ∀ w ∈ wsX00, w ∈ wsX0_share := fun w h => List.mem_cons_of_mem _ (List.mem_append_right _ h)
  have hCF : CallFix p m c cX0_share 4 s _ wsX0_share RX0 := ⟨hx, hb, hml, hown, hts⟩
  have hl := lv_entry ([.ref o0, .int x1, .int x2, .int x3]) (n := 4) (Nat.le_of_ble_eq_true rfl)
  rw [lg_entry_eq]
  generalize (lg_sl ([.ref o0, .int x1, .int x2, .int x3]) ++ List.replicate (4 - (lg_sl ([.ref o0, .int x1, .int x2, .int x3])).length) Slot.unset).toArray = ls at hl ⊢
  have hl : lv_has ls 4 [(0, .ref o0), (1, .int x1), (2, .int x2), (3, .int x3)] := hl
  refine lv_iload_n hx hb dX0_share_0 rfl (lv_at hl 1 rfl) ?_
  obtain ⟨r1, hq1, hf⟩ := ob_some hf
  try dsimp only at hf
  refine ks_i (wr := w0 o0 o1 o2 cA cB zs0 ns0 ak0 hd0 br0 dp0 de0 hn0 sm0) (As := [.int x1]) (rest := []) [0, 1, 2] hCF (okX0_isDesk l hq1) (va_cwS 1 hts gX0_share_X0_isDesk rfl rfl rfl ydX0_isDesk ⟨Nat.le_of_ble_eq_true rfl, Nat.le_of_ble_eq_true rfl⟩) hK hP hD hS hA rfl rfl rfl hl.1 rfl (Nat.le_of_ble_eq_true rfl) dX0_share_1 ⟨Nat.zero_le _, Nat.zero_le _⟩ (fun H locs hP hD hS => ?_)
  have hP : va_P (dC, dI) vwCl (w0 o0 o1 o2 cA cB zs0 ns0 ak0 hd0 br0 dp0 de0 hn0 sm0) H := hP
  have hD : va_D A (w0 o0 o1 o2 cA cB zs0 ns0 ak0 hd0 br0 dp0 de0 hn0 sm0) := hD
  refine lv_if_eq (tgt := 14) hx hb dX0_share_4 (by decide) (fun c2 => ?_) (fun c2 => ?_)
  · have hf := (if_pos c2).symm.trans hf
    refine lv_bipush (v := (-2)) hx hb dX0_share_14 (by decide) ?_
    obtain ⟨hv, hu⟩ := os_pair hf
    subst hu
    exact W.iret (v := (-2)) hx hb hr (fun t ht hW => k_endi hv hP hK hD hS ht hW) hS.2.2 dX0_share_16
  · have hf := (if_neg c2).symm.trans hf
    refine lv_iload_n hx hb dX0_share_7 rfl (lv_at hl 2 rfl) ?_
    obtain ⟨r3, hq3, hf⟩ := ob_some hf
    try dsimp only at hf
    refine ks_i (wr := w0 o0 o1 o2 cA cB zs0 ns0 ak0 hd0 br0 dp0 de0 hn0 sm0) (As := [.int x2]) (rest := []) [0, 1, 2] hCF (okX0_isDesk l hq3) (va_cwS 1 hts gX0_share_X0_isDesk rfl rfl rfl ydX0_isDesk ⟨Nat.le_of_ble_eq_true rfl, Nat.le_of_ble_eq_true rfl⟩) hK hP hD hS hA rfl rfl rfl hl.1 rfl (Nat.le_of_ble_eq_true rfl) dX0_share_8 ⟨Nat.zero_le _, Nat.zero_le _⟩ (fun H locs hP hD hS => ?_)
    have hP : va_P (dC, dI) vwCl (w0 o0 o1 o2 cA cB zs0 ns0 ak0 hd0 br0 dp0 de0 hn0 sm0) H := hP
    have hD : va_D A (w0 o0 o1 o2 cA cB zs0 ns0 ak0 hd0 br0 dp0 de0 hn0 sm0) := hD
    refine lv_if_ne (tgt := 17) hx hb dX0_share_11 (by decide) (fun c4 => ?_) (fun c4 => ?_)
    · have hf := (if_neg c4).symm.trans hf
      refine lv_aload_n hx hb dX0_share_17 rfl (lv_at hl 0 rfl) ?_
      refine lv_iload_n hx hb dX0_share_18 rfl (lv_at hl 1 rfl) ?_
      obtain ⟨⟨r5, zs5, ns5, ak5, hd5, br5, dp5, de5, hn5, sm5⟩, hq5, hf⟩ := ob_some hf
      try dsimp only at hf
      refine kc_i (wr := []) (As := [.int x1]) (rest := []) [0, 1, 2] [] [0, 1] 0 0 hCF (okX0_hold l hq5) (cwV 1 hts gX0_share_X0_hold rfl rfl rfl ydX0_hold ⟨Nat.le_of_ble_eq_true rfl, Nat.le_of_ble_eq_true rfl⟩) hK hP hD hS hA rfl rfl rfl rfl rfl (fun _ h => by cases h) rfl rfl rfl rfl hl.1 rfl (Nat.le_of_ble_eq_true rfl) dX0_share_19 ⟨Nat.zero_le _, Nat.zero_le _⟩ (fun H locs hP hD hS => ?_)
      have hP : va_P (dC, dI) vwCl (w0 o0 o1 o2 cA cB zs5 ns5 ak5 hd5 br5 dp5 de5 hn5 sm5) H := hP
      have hD : va_D A (w0 o0 o1 o2 cA cB zs5 ns5 ak5 hd5 br5 dp5 de5 hn5 sm5) := hD
      refine lv_if_ne (tgt := 28) hx hb dX0_share_22 (by decide) (fun c6 => ?_) (fun c6 => ?_)
      · have hf := (if_neg c6).symm.trans hf
        refine lv_aload_n hx hb dX0_share_28 rfl (lv_at hl 0 rfl) ?_
        refine lv_aload_n hx hb dX0_share_29 rfl (lv_at hl 0 rfl) ?_
        refine lv_iload_n hx hb dX0_share_30 rfl (lv_at hl 1 rfl) ?_
        refine lv_iload_n hx hb dX0_share_31 rfl (lv_at hl 2 rfl) ?_
        refine lv_iload_n hx hb dX0_share_32 rfl (lv_at hl 3 rfl) ?_
        obtain ⟨⟨r7, zs7, ns7, ak7, hd7, br7, dp7, de7, hn7, sm7⟩, hq7, hf⟩ := ob_some hf
        try dsimp only at hf
        refine kc_i (wr := []) (As := [.int x1, .int x2, .int x3]) (rest := [.ref o0]) [0, 1, 2] [] [0, 1] 0 0 hCF (okX0_shareWithin l hq7) (cwV 3 hts gX0_share_X0_shareWithin rfl rfl rfl ydX0_shareWithin ⟨Nat.le_of_ble_eq_true rfl, Nat.le_of_ble_eq_true rfl⟩) hK hP hD hS hA rfl rfl rfl rfl rfl (fun _ h => by cases h) rfl rfl rfl rfl hl.1 rfl (Nat.le_of_ble_eq_true rfl) dX0_share_33 ⟨Nat.zero_le _, Nat.zero_le _⟩ (fun H locs hP hD hS => ?_)
        have hP : va_P (dC, dI) vwCl (w0 o0 o1 o2 cA cB zs7 ns7 ak7 hd7 br7 dp7 de7 hn7 sm7) H := hP
        have hD : va_D A (w0 o0 o1 o2 cA cB zs7 ns7 ak7 hd7 br7 dp7 de7 hn7 sm7) := hD
        obtain ⟨⟨r8, zs8, ns8, ak8, hd8, br8, dp8, de8, hn8, sm8⟩, hq8, hf⟩ := ob_some hf
        try dsimp only at hf
        refine kc_i (wr := []) (As := [.int r7]) (rest := []) [0, 1, 2] [] [0, 1] 0 0 hCF (okX0_release l hq8) (cwV 1 hts gX0_share_X0_release rfl rfl rfl ydX0_release ⟨Nat.le_of_ble_eq_true rfl, Nat.le_of_ble_eq_true rfl⟩) hK hP hD hS hA rfl rfl rfl rfl rfl (fun _ h => by cases h) rfl rfl rfl rfl hl.1 rfl (Nat.le_of_ble_eq_true rfl) dX0_share_36 ⟨Nat.zero_le _, Nat.zero_le _⟩ (fun H locs hP hD hS => ?_)
        have hP : va_P (dC, dI) vwCl (w0 o0 o1 o2 cA cB zs8 ns8 ak8 hd8 br8 dp8 de8 hn8 sm8) H := hP
        have hD : va_D A (w0 o0 o1 o2 cA cB zs8 ns8 ak8 hd8 br8 dp8 de8 hn8 sm8) := hD
        obtain ⟨hv, hu⟩ := os_pair hf
        subst hu
        exact W.iret (v := r8) hx hb hr (fun t ht hW => k_endi hv hP hK hD hS ht hW) hS.2.2 dX0_share_39
      · have hf := (if_pos c6).symm.trans hf
        refine lv_bipush (v := (-11)) hx hb dX0_share_25 (by decide) ?_
        obtain ⟨hv, hu⟩ := os_pair hf
        subst hu
        exact W.iret (v := (-11)) hx hb hr (fun t ht hW => k_endi hv hP hK hD hS ht hW) hS.2.2 dX0_share_27
    · have hf := (if_pos c4).symm.trans hf
      refine lv_bipush (v := (-2)) hx hb dX0_share_14 (by decide) ?_
      obtain ⟨hv, hu⟩ := os_pair hf
      subst hu
      exact W.iret (v := (-2)) hx hb hr (fun t ht hW => k_endi hv hP hK hD hS ht hW) hS.2.2 dX0_share_16
set_option maxHeartbeats 4000000 in
set_option maxRecDepth 100000 in
theorem okX0_spread (l : Launch) {dC : Nat → ClassId} {dI : Nat → Nat → Nat} {o0 o1 o2 : Nat} {cA cB : ClassId} {sz : Nat} {x1 x2 : Int32} {zs0 ns0 : Nat → Int32} {ak0 hd0 br0 dp0 de0 hn0 : Int32} {sm0 : Int64} {r : Int32} {st2 : S0} (hf : fX0_spread x1 x2 zs0 ns0 ak0 hd0 br0 dp0 de0 hn0 sm0 = some (r, st2)) : kMi l yX0_spread wsX0_spread ({ frames := 5, cells := 0, slots := 0, locals := 113 }) (dC, dI) vwCl [(cA, .int), (cB, .int)] (w0 o0 o1 o2 cA cB zs0 ns0 ak0 hd0 br0 dp0 de0 hn0 sm0) (w0t o0 o1 o2 cA cB st2) [.ref o0, .int x1, .int x2] sz r := by
  rw [fX0_spread] at hf
  refine Met.ofW (cc := cX0_spread) (maxL := 3) (ret := (some .int)) (by decide) rfl ?_
  intro p e s m args below meth c s₁ B hml hv
  obtain ⟨rfl, hsz, hP, hK, hD0⟩ := hv
  have hx := B.exec
  have hb := B.bytes
  have hr := B.returns
  have hts := atoms_spec (ws := wsX0_spread) B.pre
  have hown : s.vm.findClass RX0 = some m.cls := findClass_of_methodNamed B.named
  have hlocks := B.notSynchronized
  subst hsz
  have hD := hD0.self (sz := s.heap.size)
  generalize hAe : va_A (w0 o0 o1 o2 cA cB zs0 ns0 ak0 hd0 br0 dp0 de0 hn0 sm0) s.heap.size = A at hD ⊢
  have hA : ∀ q : Nat, s.heap.size ≤ q → A q := fun q h => by rw [← hAe]; exact Or.inr h
  have hS : va_S A s.heap s.heap [] := va_S.rf
  have hin0 : ∀ w ∈ wsX00, w ∈ wsX0_spread := fun w h => List.mem_cons_of_mem _ (List.mem_append_right _ h)
  have hCF : CallFix p m c cX0_spread 3 s _ wsX0_spread RX0 := ⟨hx, hb, hml, hown, hts⟩
  have hl := lv_entry ([.ref o0, .int x1, .int x2]) (n := 3) (Nat.le_of_ble_eq_true rfl)
  rw [lg_entry_eq]
  generalize (lg_sl ([.ref o0, .int x1, .int x2]) ++ List.replicate (3 - (lg_sl ([.ref o0, .int x1, .int x2])).length) Slot.unset).toArray = ls at hl ⊢
  have hl : lv_has ls 3 [(0, .ref o0), (1, .int x1), (2, .int x2)] := hl
  refine lv_iload_n hx hb dX0_spread_0 rfl (lv_at hl 1 rfl) ?_
  obtain ⟨r1, hq1, hf⟩ := ob_some hf
  try dsimp only at hf
  refine ks_i (wr := w0 o0 o1 o2 cA cB zs0 ns0 ak0 hd0 br0 dp0 de0 hn0 sm0) (As := [.int x1]) (rest := []) [0, 1, 2] hCF (okX0_isDesk l hq1) (va_cwS 1 hts gX0_spread_X0_isDesk rfl rfl rfl ydX0_isDesk ⟨Nat.le_of_ble_eq_true rfl, Nat.le_of_ble_eq_true rfl⟩) hK hP hD hS hA rfl rfl rfl hl.1 rfl (Nat.le_of_ble_eq_true rfl) dX0_spread_1 ⟨Nat.zero_le _, Nat.zero_le _⟩ (fun H locs hP hD hS => ?_)
  have hP : va_P (dC, dI) vwCl (w0 o0 o1 o2 cA cB zs0 ns0 ak0 hd0 br0 dp0 de0 hn0 sm0) H := hP
  have hD : va_D A (w0 o0 o1 o2 cA cB zs0 ns0 ak0 hd0 br0 dp0 de0 hn0 sm0) := hD
  refine lv_if_eq (tgt := 14) hx hb dX0_spread_4 (by decide) (fun c2 => ?_) (fun c2 => ?_)
  · have hf := (if_pos c2).symm.trans hf
    refine lv_bipush (v := (-2)) hx hb dX0_spread_14 (by decide) ?_
    obtain ⟨hv, hu⟩ := os_pair hf
    subst hu
    exact W.iret (v := (-2)) hx hb hr (fun t ht hW => k_endi hv hP hK hD hS ht hW) hS.2.2 dX0_spread_16
  · have hf := (if_neg c2).symm.trans hf
    refine lv_iload_n hx hb dX0_spread_7 rfl (lv_at hl 2 rfl) ?_
    obtain ⟨r3, hq3, hf⟩ := ob_some hf
    try dsimp only at hf
    refine ks_i (wr := w0 o0 o1 o2 cA cB zs0 ns0 ak0 hd0 br0 dp0 de0 hn0 sm0) (As := [.int x2]) (rest := []) [0, 1, 2] hCF (okX0_isDesk l hq3) (va_cwS 1 hts gX0_spread_X0_isDesk rfl rfl rfl ydX0_isDesk ⟨Nat.le_of_ble_eq_true rfl, Nat.le_of_ble_eq_true rfl⟩) hK hP hD hS hA rfl rfl rfl hl.1 rfl (Nat.le_of_ble_eq_true rfl) dX0_spread_8 ⟨Nat.zero_le _, Nat.zero_le _⟩ (fun H locs hP hD hS => ?_)
    have hP : va_P (dC, dI) vwCl (w0 o0 o1 o2 cA cB zs0 ns0 ak0 hd0 br0 dp0 de0 hn0 sm0) H := hP
    have hD : va_D A (w0 o0 o1 o2 cA cB zs0 ns0 ak0 hd0 br0 dp0 de0 hn0 sm0) := hD
    refine lv_if_ne (tgt := 17) hx hb dX0_spread_11 (by decide) (fun c4 => ?_) (fun c4 => ?_)
    · have hf := (if_neg c4).symm.trans hf
      refine lv_aload_n hx hb dX0_spread_17 rfl (lv_at hl 0 rfl) ?_
      refine lv_iload_n hx hb dX0_spread_18 rfl (lv_at hl 1 rfl) ?_
      obtain ⟨⟨r5, zs5, ns5, ak5, hd5, br5, dp5, de5, hn5, sm5⟩, hq5, hf⟩ := ob_some hf
      try dsimp only at hf
      refine kc_i (wr := []) (As := [.int x1]) (rest := []) [0, 1, 2] [] [0, 1] 0 0 hCF (okX0_hold l hq5) (cwV 1 hts gX0_spread_X0_hold rfl rfl rfl ydX0_hold ⟨Nat.le_of_ble_eq_true rfl, Nat.le_of_ble_eq_true rfl⟩) hK hP hD hS hA rfl rfl rfl rfl rfl (fun _ h => by cases h) rfl rfl rfl rfl hl.1 rfl (Nat.le_of_ble_eq_true rfl) dX0_spread_19 ⟨Nat.zero_le _, Nat.zero_le _⟩ (fun H locs hP hD hS => ?_)
      have hP : va_P (dC, dI) vwCl (w0 o0 o1 o2 cA cB zs5 ns5 ak5 hd5 br5 dp5 de5 hn5 sm5) H := hP
      have hD : va_D A (w0 o0 o1 o2 cA cB zs5 ns5 ak5 hd5 br5 dp5 de5 hn5 sm5) := hD
      refine lv_if_ne (tgt := 28) hx hb dX0_spread_22 (by decide) (fun c6 => ?_) (fun c6 => ?_)
      · have hf := (if_neg c6).symm.trans hf
        refine lv_aload_n hx hb dX0_spread_28 rfl (lv_at hl 0 rfl) ?_
        refine lv_aload_n hx hb dX0_spread_29 rfl (lv_at hl 0 rfl) ?_
        refine lv_iload_n hx hb dX0_spread_30 rfl (lv_at hl 1 rfl) ?_
        refine lv_iload_n hx hb dX0_spread_31 rfl (lv_at hl 2 rfl) ?_
        obtain ⟨⟨r7, zs7, ns7, ak7, hd7, br7, dp7, de7, hn7, sm7⟩, hq7, hf⟩ := ob_some hf
        try dsimp only at hf
        refine kc_i (wr := []) (As := [.int x1, .int x2]) (rest := [.ref o0]) [0, 1, 2] [] [0, 1] 0 0 hCF (okX0_spreadWithin l hq7) (cwV 2 hts gX0_spread_X0_spreadWithin rfl rfl rfl ydX0_spreadWithin ⟨Nat.le_of_ble_eq_true rfl, Nat.le_of_ble_eq_true rfl⟩) hK hP hD hS hA rfl rfl rfl rfl rfl (fun _ h => by cases h) rfl rfl rfl rfl hl.1 rfl (Nat.le_of_ble_eq_true rfl) dX0_spread_32 ⟨Nat.zero_le _, Nat.zero_le _⟩ (fun H locs hP hD hS => ?_)
        have hP : va_P (dC, dI) vwCl (w0 o0 o1 o2 cA cB zs7 ns7 ak7 hd7 br7 dp7 de7 hn7 sm7) H := hP
        have hD : va_D A (w0 o0 o1 o2 cA cB zs7 ns7 ak7 hd7 br7 dp7 de7 hn7 sm7) := hD
        obtain ⟨⟨r8, zs8, ns8, ak8, hd8, br8, dp8, de8, hn8, sm8⟩, hq8, hf⟩ := ob_some hf
        try dsimp only at hf
        refine kc_i (wr := []) (As := [.int r7]) (rest := []) [0, 1, 2] [] [0, 1] 0 0 hCF (okX0_release l hq8) (cwV 1 hts gX0_spread_X0_release rfl rfl rfl ydX0_release ⟨Nat.le_of_ble_eq_true rfl, Nat.le_of_ble_eq_true rfl⟩) hK hP hD hS hA rfl rfl rfl rfl rfl (fun _ h => by cases h) rfl rfl rfl rfl hl.1 rfl (Nat.le_of_ble_eq_true rfl) dX0_spread_35 ⟨Nat.zero_le _, Nat.zero_le _⟩ (fun H locs hP hD hS => ?_)
        have hP : va_P (dC, dI) vwCl (w0 o0 o1 o2 cA cB zs8 ns8 ak8 hd8 br8 dp8 de8 hn8 sm8) H := hP
        have hD : va_D A (w0 o0 o1 o2 cA cB zs8 ns8 ak8 hd8 br8 dp8 de8 hn8 sm8) := hD
        obtain ⟨hv, hu⟩ := os_pair hf
        subst hu
        exact W.iret (v := r8) hx hb hr (fun t ht hW => k_endi hv hP hK hD hS ht hW) hS.2.2 dX0_spread_38
      · have hf := (if_pos c6).symm.trans hf
        refine lv_bipush (v := (-11)) hx hb dX0_spread_25 (by decide) ?_
        obtain ⟨hv, hu⟩ := os_pair hf
        subst hu
        exact W.iret (v := (-11)) hx hb hr (fun t ht hW => k_endi hv hP hK hD hS ht hW) hS.2.2 dX0_spread_27
    · have hf := (if_pos c4).symm.trans hf
      refine lv_bipush (v := (-2)) hx hb dX0_spread_14 (by decide) ?_
      obtain ⟨hv, hu⟩ := os_pair hf
      subst hu
      exact W.iret (v := (-2)) hx hb hr (fun t ht hW => k_endi hv hP hK hD hS ht hW) hS.2.2 dX0_spread_16
set_option maxHeartbeats 4000000 in
set_option maxRecDepth 100000 in
theorem okX0_climb (l : Launch) {dC : Nat → ClassId} {dI : Nat → Nat → Nat} {o0 o1 o2 : Nat} {cA cB : ClassId} {sz : Nat} {x1 x2 : Int32} {zs0 ns0 : Nat → Int32} {ak0 hd0 br0 dp0 de0 hn0 : Int32} {sm0 : Int64} {r : Int32} {st2 : S0} (hf : fX0_climb x1 x2 zs0 ns0 ak0 hd0 br0 dp0 de0 hn0 sm0 = some (r, st2)) : kMi l yX0_climb wsX0_climb ({ frames := 35, cells := 0, slots := 0, locals := 775 }) (dC, dI) vwCl [(cA, .int), (cB, .int)] (w0 o0 o1 o2 cA cB zs0 ns0 ak0 hd0 br0 dp0 de0 hn0 sm0) (w0t o0 o1 o2 cA cB st2) [.ref o0, .int x1, .int x2] sz r := by
  rw [fX0_climb] at hf
  refine Met.ofW (cc := cX0_climb) (maxL := 3) (ret := (some .int)) (by decide) rfl ?_
  intro p e s m args below meth c s₁ B hml hv
  obtain ⟨rfl, hsz, hP, hK, hD0⟩ := hv
  have hx := B.exec
  have hb := B.bytes
  have hr := B.returns
  have hts := atoms_spec (ws := wsX0_climb) B.pre
  have hown : s.vm.findClass RX0 = some m.cls := findClass_of_methodNamed B.named
  have hlocks := B.notSynchronized
  subst hsz
  have hD := hD0.self (sz := s.heap.size)
  generalize hAe : va_A (w0 o0 o1 o2 cA cB zs0 ns0 ak0 hd0 br0 dp0 de0 hn0 sm0) s.heap.size = A at hD ⊢
  have hA : ∀ q : Nat, s.heap.size ≤ q → A q := fun q h => by rw [← hAe]; exact Or.inr h
  have hS : va_S A s.heap s.heap [] := va_S.rf
  have hin0 : ∀ w ∈ wsX00, w ∈ wsX0_climb := fun w h => List.mem_cons_of_mem _ (List.mem_append_right _ h)
  have hCF : CallFix p m c cX0_climb 3 s _ wsX0_climb RX0 := ⟨hx, hb, hml, hown, hts⟩
  have hl := lv_entry ([.ref o0, .int x1, .int x2]) (n := 3) (Nat.le_of_ble_eq_true rfl)
  rw [lg_entry_eq]
  generalize (lg_sl ([.ref o0, .int x1, .int x2]) ++ List.replicate (3 - (lg_sl ([.ref o0, .int x1, .int x2])).length) Slot.unset).toArray = ls at hl ⊢
  have hl : lv_has ls 3 [(0, .ref o0), (1, .int x1), (2, .int x2)] := hl
  refine lv_iload_n hx hb dX0_climb_0 rfl (lv_at hl 1 rfl) ?_
  obtain ⟨r1, hq1, hf⟩ := ob_some hf
  try dsimp only at hf
  refine ks_i (wr := w0 o0 o1 o2 cA cB zs0 ns0 ak0 hd0 br0 dp0 de0 hn0 sm0) (As := [.int x1]) (rest := []) [0, 1, 2] hCF (okX0_isDesk l hq1) (va_cwS 1 hts gX0_climb_X0_isDesk rfl rfl rfl ydX0_isDesk ⟨Nat.le_of_ble_eq_true rfl, Nat.le_of_ble_eq_true rfl⟩) hK hP hD hS hA rfl rfl rfl hl.1 rfl (Nat.le_of_ble_eq_true rfl) dX0_climb_1 ⟨Nat.zero_le _, Nat.zero_le _⟩ (fun H locs hP hD hS => ?_)
  have hP : va_P (dC, dI) vwCl (w0 o0 o1 o2 cA cB zs0 ns0 ak0 hd0 br0 dp0 de0 hn0 sm0) H := hP
  have hD : va_D A (w0 o0 o1 o2 cA cB zs0 ns0 ak0 hd0 br0 dp0 de0 hn0 sm0) := hD
  refine lv_if_eq (tgt := 18) hx hb dX0_climb_4 (by decide) (fun c2 => ?_) (fun c2 => ?_)
  · have hf := (if_pos c2).symm.trans hf
    refine lv_bipush (v := (-2)) hx hb dX0_climb_18 (by decide) ?_
    obtain ⟨hv, hu⟩ := os_pair hf
    subst hu
    exact W.iret (v := (-2)) hx hb hr (fun t ht hW => k_endi hv hP hK hD hS ht hW) hS.2.2 dX0_climb_20
  · have hf := (if_neg c2).symm.trans hf
    refine lv_iload_n hx hb dX0_climb_7 rfl (lv_at hl 2 rfl) ?_
    refine lv_iconst (v := 1) hx hb dX0_climb_8 (by decide) ?_
    refine lv_icmp_lt (tgt := 18) hx hb dX0_climb_9 (by decide) (fun c3 => ?_) (fun c3 => ?_)
    · have hf := (if_pos c3).symm.trans hf
      refine lv_bipush (v := (-2)) hx hb dX0_climb_18 (by decide) ?_
      obtain ⟨hv, hu⟩ := os_pair hf
      subst hu
      exact W.iret (v := (-2)) hx hb hr (fun t ht hW => k_endi hv hP hK hD hS ht hW) hS.2.2 dX0_climb_20
    · have hf := (if_neg c3).symm.trans hf
      refine lv_iload_n hx hb dX0_climb_12 rfl (lv_at hl 2 rfl) ?_
      refine lv_bipush (v := 12) hx hb dX0_climb_13 (by decide) ?_
      refine lv_icmp_le (tgt := 21) hx hb dX0_climb_15 (by decide) (fun c4 => ?_) (fun c4 => ?_)
      · have hf := (if_pos c4).symm.trans hf
        refine lv_aload_n hx hb dX0_climb_21 rfl (lv_at hl 0 rfl) ?_
        refine lv_iload_n hx hb dX0_climb_22 rfl (lv_at hl 1 rfl) ?_
        refine lv_iconst (v := 0) hx hb dX0_climb_23 (by decide) ?_
        refine lv_iload_n hx hb dX0_climb_24 rfl (lv_at hl 2 rfl) ?_
        obtain ⟨⟨r5, zs5, ns5, ak5, hd5, br5, dp5, de5, hn5, sm5⟩, hq5, hf⟩ := ob_some hf
        try dsimp only at hf
        refine kc_i (wr := []) (As := [.int x1, .int 0, .int x2]) (rest := []) [0, 1, 2] [] [0, 1] 0 0 hCF (okX0_climbFrom l 12 hq5) (cwV 3 hts gX0_climb_X0_climbFrom rfl rfl rfl ydX0_climbFrom ⟨Nat.le_of_ble_eq_true rfl, Nat.le_of_ble_eq_true rfl⟩) hK hP hD hS hA rfl rfl rfl rfl rfl (fun _ h => by cases h) rfl rfl rfl rfl hl.1 rfl (Nat.le_of_ble_eq_true rfl) dX0_climb_25 ⟨Nat.zero_le _, Nat.zero_le _⟩ (fun H locs hP hD hS => ?_)
        have hP : va_P (dC, dI) vwCl (w0 o0 o1 o2 cA cB zs5 ns5 ak5 hd5 br5 dp5 de5 hn5 sm5) H := hP
        have hD : va_D A (w0 o0 o1 o2 cA cB zs5 ns5 ak5 hd5 br5 dp5 de5 hn5 sm5) := hD
        obtain ⟨hv, hu⟩ := os_pair hf
        subst hu
        exact W.iret (v := r5) hx hb hr (fun t ht hW => k_endi hv hP hK hD hS ht hW) hS.2.2 dX0_climb_28
      · have hf := (if_neg c4).symm.trans hf
        refine lv_bipush (v := (-2)) hx hb dX0_climb_18 (by decide) ?_
        obtain ⟨hv, hu⟩ := os_pair hf
        subst hu
        exact W.iret (v := (-2)) hx hb hr (fun t ht hW => k_endi hv hP hK hD hS ht hW) hS.2.2 dX0_climb_20
set_option maxHeartbeats 4000000 in
set_option maxRecDepth 100000 in
theorem okX0_find (l : Launch) {dC : Nat → ClassId} {dI : Nat → Nat → Nat} {o0 o1 o2 : Nat} {cA cB : ClassId} {sz : Nat} {x1 : Int32} {zs0 ns0 : Nat → Int32} {ak0 hd0 br0 dp0 de0 hn0 : Int32} {sm0 : Int64} {r : Int32} {st2 : S0} (hf : fX0_find x1 zs0 ns0 ak0 hd0 br0 dp0 de0 hn0 sm0 = some (r, st2)) : kMi l yX0_find wsX0_find ({ frames := 3, cells := 0, slots := 0, locals := 62 }) (dC, dI) vwCl [(cA, .int), (cB, .int)] (w0 o0 o1 o2 cA cB zs0 ns0 ak0 hd0 br0 dp0 de0 hn0 sm0) (w0t o0 o1 o2 cA cB st2) [.ref o0, .int x1] sz r := by
  rw [fX0_find] at hf
  refine Met.ofW (cc := cX0_find) (maxL := 4) (ret := (some .int)) (by decide) rfl ?_
  intro p e s m args below meth c s₁ B hml hv
  obtain ⟨rfl, hsz, hP, hK, hD0⟩ := hv
  have hx := B.exec
  have hb := B.bytes
  have hr := B.returns
  have hts := atoms_spec (ws := wsX0_find) B.pre
  have hown : s.vm.findClass RX0 = some m.cls := findClass_of_methodNamed B.named
  have hlocks := B.notSynchronized
  subst hsz
  have hD := hD0.self (sz := s.heap.size)
  generalize hAe : va_A (w0 o0 o1 o2 cA cB zs0 ns0 ak0 hd0 br0 dp0 de0 hn0 sm0) s.heap.size = A at hD ⊢
  have hA : ∀ q : Nat, s.heap.size ≤ q → A q := fun q h => by rw [← hAe]; exact Or.inr h
  have hS : va_S A s.heap s.heap [] := va_S.rf
  have hin0 : ∀ w ∈ wsX00, w ∈ wsX0_find := fun w h => List.mem_cons_of_mem _ (List.mem_append_right _ h)
  have hCF : CallFix p m c cX0_find 4 s _ wsX0_find RX0 := ⟨hx, hb, hml, hown, hts⟩
  have loop2 : ∀ (k : Nat) (y1 y2 : Int32) (zs ns : Nat → Int32) (ak hd br dp de hn : Int32) (sm : Int64) (H : Heap) (locs : List Loc) (ls : Array Slot), fX0_find_2 k y1 y2 zs ns ak hd br dp de hn sm = some (r, st2) → va_P (dC, dI) vwCl (w0 o0 o1 o2 cA cB zs ns ak hd br dp de hn sm) H → va_D A (w0 o0 o1 o2 cA cB zs ns ak hd br dp de hn sm) → va_S A s.heap H locs → lv_has ls 4 [(0, .ref o0), (1, .int y1), (2, .int y2)] → W p l e (headSpec wsX0_find ({ frames := 3, cells := 0, slots := 0, locals := 62 })).room s m ([.ref o0, .int x1] : List Value).toArray below meth c H locs 0 0 (MQ below (va_Qi (fun (r2 : Int32) (_ : Unit) => r2 = r) (k_out (dC, dI) vwCl [(cA, .int), (cB, .int)] A (w0t o0 o1 o2 cA cB st2)) A) ([.ref o0, .int x1] : List Value).toArray s 0 0 A) (F0 m 2 ls []) := by
    intro k
    induction k with
    | zero => intro y1 y2 zs ns ak hd br dp de hn sm H locs ls hf; cases hf
    | succ k ih =>
      intro y1 y2 zs ns ak hd br dp de hn sm H locs ls hf hP hD hS hl
      rw [fX0_find_2] at hf
      refine lv_iload_n hx hb dX0_find_2 rfl (lv_at hl 2 rfl) ?_
      refine lv_bipush (v := 8) hx hb dX0_find_3 (by decide) ?_
      refine lv_icmp_ge (tgt := 53) hx hb dX0_find_5 (by decide) (fun c1 => ?_) (fun c1 => ?_)
      · have hf := (if_pos c1).symm.trans hf
        refine lv_iconst (v := (-1)) hx hb dX0_find_53 (by decide) ?_
        obtain ⟨hv, hu⟩ := os_pair hf
        subst hu
        exact W.iret (v := (-1)) hx hb hr (fun t ht hW => k_endi hv hP hK hD hS ht hW) hS.2.2 dX0_find_54
      · have hf := (if_neg c1).symm.trans hf
        refine lv_aload_n hx hb dX0_find_8 rfl (lv_at hl 0 rfl) ?_
        refine lv_iload_n hx hb dX0_find_9 rfl (lv_at hl 2 rfl) ?_
        obtain ⟨r2, hq2, hf⟩ := ob_some hf
        try dsimp only at hf
        refine kc_i (wr := []) (As := [.int y2]) (rest := []) [0, 1, 2] [] [0, 1] 0 0 hCF (okX0_isThere l hq2) (cwV 1 hts gX0_find_X0_isThere rfl rfl rfl ydX0_isThere ⟨Nat.le_of_ble_eq_true rfl, Nat.le_of_ble_eq_true rfl⟩) hK hP hD hS hA rfl rfl rfl rfl rfl (fun _ h => by cases h) rfl rfl rfl rfl hl.1 rfl (Nat.le_of_ble_eq_true rfl) dX0_find_10 ⟨Nat.zero_le _, Nat.zero_le _⟩ (fun H locs hP hD hS => ?_)
        have hP : va_P (dC, dI) vwCl (w0 o0 o1 o2 cA cB zs ns ak hd br dp de hn sm) H := hP
        have hD : va_D A (w0 o0 o1 o2 cA cB zs ns ak hd br dp de hn sm) := hD
        refine lv_if_eq (tgt := 47) hx hb dX0_find_13 (by decide) (fun c3 => ?_) (fun c3 => ?_)
        · have hf := (if_pos c3).symm.trans hf
          refine lv_iinc (v := y2 + 1) (lv' := [(2, .int (y2 + 1)), (0, .ref o0), (1, .int y1)]) hx hb dX0_find_47 hl (k := 2) rfl (congrArg (fun t => y2 + t) (by decide)) (by decide) rfl (fun ls hl => ?_)
          refine lv_goto (tgt := 2) hx hb dX0_find_50 (by decide) ?_
          exact ih _ _ _ _ _ _ _ _ _ _ _ _ _ _ hf hP hD hS (lv_sub hl [1, 2, 0] rfl)
        · have hf := (if_neg c3).symm.trans hf
          refine lv_aload_n hx hb dX0_find_16 rfl (lv_at hl 0 rfl) ?_
          refine lv_iload_n hx hb dX0_find_17 rfl (lv_at hl 2 rfl) ?_
          obtain ⟨⟨r4, zs4, ns4, ak4, hd4, br4, dp4, de4, hn4, sm4⟩, hq4, hf⟩ := ob_some hf
          try dsimp only at hf
          refine kc_i (wr := []) (As := [.int y2]) (rest := []) [0, 1, 2] [] [0, 1] 0 0 hCF (okX0_hold l hq4) (cwV 1 hts gX0_find_X0_hold rfl rfl rfl ydX0_hold ⟨Nat.le_of_ble_eq_true rfl, Nat.le_of_ble_eq_true rfl⟩) hK hP hD hS hA rfl rfl rfl rfl rfl (fun _ h => by cases h) rfl rfl rfl rfl hl.1 rfl (Nat.le_of_ble_eq_true rfl) dX0_find_18 ⟨Nat.zero_le _, Nat.zero_le _⟩ (fun H locs hP hD hS => ?_)
          have hP : va_P (dC, dI) vwCl (w0 o0 o1 o2 cA cB zs4 ns4 ak4 hd4 br4 dp4 de4 hn4 sm4) H := hP
          have hD : va_D A (w0 o0 o1 o2 cA cB zs4 ns4 ak4 hd4 br4 dp4 de4 hn4 sm4) := hD
          refine lv_if_eq (tgt := 47) hx hb dX0_find_21 (by decide) (fun c5 => ?_) (fun c5 => ?_)
          · have hf := (if_pos c5).symm.trans hf
            refine lv_iinc (v := y2 + 1) (lv' := [(2, .int (y2 + 1)), (0, .ref o0), (1, .int y1)]) hx hb dX0_find_47 hl (k := 2) rfl (congrArg (fun t => y2 + t) (by decide)) (by decide) rfl (fun ls hl => ?_)
            refine lv_goto (tgt := 2) hx hb dX0_find_50 (by decide) ?_
            exact ih _ _ _ _ _ _ _ _ _ _ _ _ _ _ hf hP hD hS (lv_sub hl [1, 2, 0] rfl)
          · have hf := (if_neg c5).symm.trans hf
            refine lv_aload_n hx hb dX0_find_24 rfl (lv_at hl 0 rfl) ?_
            refine lv_aload_n hx hb dX0_find_25 rfl (lv_at hl 0 rfl) ?_
            refine lv_iload_n hx hb dX0_find_26 rfl (lv_at hl 2 rfl) ?_
            refine lv_iload_n hx hb dX0_find_27 rfl (lv_at hl 1 rfl) ?_
            obtain ⟨r6, hq6, hf⟩ := ob_some hf
            try dsimp only at hf
            refine kc_i (wr := []) (As := [.int y2, .int y1]) (rest := [.ref o0]) [0, 1, 2] [] [0, 1] 0 0 hCF (okX0_placeOf l hq6) (cwV 2 hts gX0_find_X0_placeOf rfl rfl rfl ydX0_placeOf ⟨Nat.le_of_ble_eq_true rfl, Nat.le_of_ble_eq_true rfl⟩) hK hP hD hS hA rfl rfl rfl rfl rfl (fun _ h => by cases h) rfl rfl rfl rfl hl.1 rfl (Nat.le_of_ble_eq_true rfl) dX0_find_28 ⟨Nat.zero_le _, Nat.zero_le _⟩ (fun H locs hP hD hS => ?_)
            have hP : va_P (dC, dI) vwCl (w0 o0 o1 o2 cA cB zs4 ns4 ak4 hd4 br4 dp4 de4 hn4 sm4) H := hP
            have hD : va_D A (w0 o0 o1 o2 cA cB zs4 ns4 ak4 hd4 br4 dp4 de4 hn4 sm4) := hD
            obtain ⟨⟨r7, zs7, ns7, ak7, hd7, br7, dp7, de7, hn7, sm7⟩, hq7, hf⟩ := ob_some hf
            try dsimp only at hf
            refine kc_i (wr := []) (As := [.int r6]) (rest := []) [0, 1, 2] [] [0, 1] 0 0 hCF (okX0_release l hq7) (cwV 1 hts gX0_find_X0_release rfl rfl rfl ydX0_release ⟨Nat.le_of_ble_eq_true rfl, Nat.le_of_ble_eq_true rfl⟩) hK hP hD hS hA rfl rfl rfl rfl rfl (fun _ h => by cases h) rfl rfl rfl rfl hl.1 rfl (Nat.le_of_ble_eq_true rfl) dX0_find_31 ⟨Nat.zero_le _, Nat.zero_le _⟩ (fun H locs hP hD hS => ?_)
            have hP : va_P (dC, dI) vwCl (w0 o0 o1 o2 cA cB zs7 ns7 ak7 hd7 br7 dp7 de7 hn7 sm7) H := hP
            have hD : va_D A (w0 o0 o1 o2 cA cB zs7 ns7 ak7 hd7 br7 dp7 de7 hn7 sm7) := hD
            refine lv_istore_n (lv' := [(3, .int r7), (0, .ref o0), (1, .int y1), (2, .int y2)]) hx hb dX0_find_34 rfl hl (by decide) rfl (fun ls hl => ?_)
            refine lv_iload_n hx hb dX0_find_35 rfl (lv_at hl 0 rfl) ?_
            refine lv_iconst (v := (-1)) hx hb dX0_find_36 (by decide) ?_
            refine lv_icmp_eq (tgt := 47) hx hb dX0_find_37 (by decide) (fun c8 => ?_) (fun c8 => ?_)
            · have hf := (if_pos c8).symm.trans hf
              refine lv_iinc (v := y2 + 1) (lv' := [(2, .int (y2 + 1)), (3, .int r7), (0, .ref o0), (1, .int y1)]) hx hb dX0_find_47 hl (k := 3) rfl (congrArg (fun t => y2 + t) (by decide)) (by decide) rfl (fun ls hl => ?_)
              refine lv_goto (tgt := 2) hx hb dX0_find_50 (by decide) ?_
              exact ih _ _ _ _ _ _ _ _ _ _ _ _ _ _ hf hP hD hS (lv_sub hl [2, 3, 0] rfl)
            · have hf := (if_neg c8).symm.trans hf
              refine lv_bipush (v := 8) hx hb dX0_find_40 (by decide) ?_
              refine lv_iload_n hx hb dX0_find_42 rfl (lv_at hl 3 rfl) ?_
              refine lv_imul hx hb dX0_find_43 ?_
              refine lv_iload_n hx hb dX0_find_44 rfl (lv_at hl 0 rfl) ?_
              refine lv_iadd hx hb dX0_find_45 ?_
              obtain ⟨hv, hu⟩ := os_pair hf
              subst hu
              exact W.iret (v := (8 * y2) + r7) hx hb hr (fun t ht hW => k_endi hv hP hK hD hS ht hW) hS.2.2 dX0_find_46
  have hl := lv_entry ([.ref o0, .int x1]) (n := 4) (Nat.le_of_ble_eq_true rfl)
  rw [lg_entry_eq]
  generalize (lg_sl ([.ref o0, .int x1]) ++ List.replicate (4 - (lg_sl ([.ref o0, .int x1])).length) Slot.unset).toArray = ls at hl ⊢
  have hl : lv_has ls 4 [(0, .ref o0), (1, .int x1)] := hl
  refine lv_iconst (v := 0) hx hb dX0_find_0 (by decide) ?_
  refine lv_istore_n (lv' := [(2, .int 0), (0, .ref o0), (1, .int x1)]) hx hb dX0_find_1 rfl hl (by decide) rfl (fun ls hl => ?_)
  exact loop2 9 _ _ _ _ _ _ _ _ _ _ _ _ _ _ hf hP hD hS (lv_sub hl [1, 2, 0] rfl)
set_option maxHeartbeats 4000000 in
set_option maxRecDepth 100000 in
theorem okX0_rounds (l : Launch) {dC : Nat → ClassId} {dI : Nat → Nat → Nat} {o0 o1 o2 : Nat} {cA cB : ClassId} {sz : Nat} {x1 x2 : Int32} {zs0 ns0 : Nat → Int32} {ak0 hd0 br0 dp0 de0 hn0 : Int32} {sm0 : Int64} {r : Int32} {st2 : S0} (hf : fX0_rounds x1 x2 zs0 ns0 ak0 hd0 br0 dp0 de0 hn0 sm0 = some (r, st2)) : kMi l yX0_rounds wsX0_rounds ({ frames := 3, cells := 0, slots := 0, locals := 62 }) (dC, dI) vwCl [(cA, .int), (cB, .int)] (w0 o0 o1 o2 cA cB zs0 ns0 ak0 hd0 br0 dp0 de0 hn0 sm0) (w0t o0 o1 o2 cA cB st2) [.ref o0, .int x1, .int x2] sz r := by
  rw [fX0_rounds] at hf
  refine Met.ofW (cc := cX0_rounds) (maxL := 6) (ret := (some .int)) (by decide) rfl ?_
  intro p e s m args below meth c s₁ B hml hv
  obtain ⟨rfl, hsz, hP, hK, hD0⟩ := hv
  have hx := B.exec
  have hb := B.bytes
  have hr := B.returns
  have hts := atoms_spec (ws := wsX0_rounds) B.pre
  have hown : s.vm.findClass RX0 = some m.cls := findClass_of_methodNamed B.named
  have hlocks := B.notSynchronized
  subst hsz
  have hD := hD0.self (sz := s.heap.size)
  generalize hAe : va_A (w0 o0 o1 o2 cA cB zs0 ns0 ak0 hd0 br0 dp0 de0 hn0 sm0) s.heap.size = A at hD ⊢
  have hA : ∀ q : Nat, s.heap.size ≤ q → A q := fun q h => by rw [← hAe]; exact Or.inr h
  have hS : va_S A s.heap s.heap [] := va_S.rf
  have hin0 : ∀ w ∈ wsX00, w ∈ wsX0_rounds := fun w h => List.mem_cons_of_mem _ (List.mem_append_right _ h)
  have hfl54 := hts (.fieldLink RX0 54 "CountRoom" "hand" "I") (by decide +kernel)
  have hCF : CallFix p m c cX0_rounds 6 s _ wsX0_rounds RX0 := ⟨hx, hb, hml, hown, hts⟩
  have loop19 : ∀ (k : Nat) (y1 y2 y3 y4 : Int32) (zs ns : Nat → Int32) (ak hd br dp de hn : Int32) (sm : Int64) (H : Heap) (locs : List Loc) (ls : Array Slot), fX0_rounds_19 k y1 y2 y3 y4 zs ns ak hd br dp de hn sm = some (r, st2) → va_P (dC, dI) vwCl (w0 o0 o1 o2 cA cB zs ns ak hd br dp de hn sm) H → va_D A (w0 o0 o1 o2 cA cB zs ns ak hd br dp de hn sm) → va_S A s.heap H locs → lv_has ls 6 [(0, .ref o0), (1, .int y1), (2, .int y2), (3, .int y3), (4, .int y4)] → W p l e (headSpec wsX0_rounds ({ frames := 3, cells := 0, slots := 0, locals := 62 })).room s m ([.ref o0, .int x1, .int x2] : List Value).toArray below meth c H locs 0 0 (MQ below (va_Qi (fun (r2 : Int32) (_ : Unit) => r2 = r) (k_out (dC, dI) vwCl [(cA, .int), (cB, .int)] A (w0t o0 o1 o2 cA cB st2)) A) ([.ref o0, .int x1, .int x2] : List Value).toArray s 0 0 A) (F0 m 19 ls []) := by
    intro k
    induction k with
    | zero => intro y1 y2 y3 y4 zs ns ak hd br dp de hn sm H locs ls hf; cases hf
    | succ k ih =>
      intro y1 y2 y3 y4 zs ns ak hd br dp de hn sm H locs ls hf hP hD hS hl
      rw [fX0_rounds_19] at hf
      refine lv_iload hx hb dX0_rounds_19 (lv_at hl 4 rfl) ?_
      refine lv_iload_n hx hb dX0_rounds_21 rfl (lv_at hl 1 rfl) ?_
      refine lv_icmp_ge (tgt := 76) hx hb dX0_rounds_22 (by decide) (fun c3 => ?_) (fun c3 => ?_)
      · have hf := (if_pos c3).symm.trans hf
        refine lv_iload_n hx hb dX0_rounds_76 rfl (lv_at hl 3 rfl) ?_
        obtain ⟨hv, hu⟩ := os_pair hf
        subst hu
        exact W.iret (v := y3) hx hb hr (fun t ht hW => k_endi hv hP hK hD hS ht hW) hS.2.2 dX0_rounds_77
      · have hf := (if_neg c3).symm.trans hf
        refine lv_aload_n hx hb dX0_rounds_25 rfl (lv_at hl 0 rfl) ?_
        obtain ⟨⟨zs4, ns4, ak4, hd4, br4, dp4, de4, hn4, sm4⟩, hq4, hf⟩ := ob_some hf
        try dsimp only at hf
        refine kc_v (wr := []) (As := []) (rest := []) [0, 1, 2] [] [0, 1] 0 0 hCF (okX0_moveHand l hq4) (cwV 0 hts gX0_rounds_X0_moveHand rfl rfl rfl ydX0_moveHand ⟨Nat.le_of_ble_eq_true rfl, Nat.le_of_ble_eq_true rfl⟩) hK hP hD hS hA rfl rfl rfl rfl rfl (fun _ h => by cases h) rfl rfl rfl rfl hl.1 rfl (Nat.le_of_ble_eq_true rfl) dX0_rounds_26 ⟨Nat.zero_le _, Nat.zero_le _⟩ (fun H locs hP hD hS => ?_)
        have hP : va_P (dC, dI) vwCl (w0 o0 o1 o2 cA cB zs4 ns4 ak4 hd4 br4 dp4 de4 hn4 sm4) H := hP
        have hD : va_D A (w0 o0 o1 o2 cA cB zs4 ns4 ak4 hd4 br4 dp4 de4 hn4 sm4) := hD
        refine lv_aload_n hx hb dX0_rounds_29 rfl (lv_at hl 0 rfl) ?_
        refine lv_aload_n hx hb dX0_rounds_30 rfl (lv_at hl 0 rfl) ?_
        refine va_get (D := (dC, dI)) (ci := 0) (v := .int hn4) (C := RX0) (T := TX0) (N := 9) hx hb hts hin0 hown hK hP 0 rfl rfl 7 (by decide) hfl54 (fun _ h9 => h9) rfl dX0_rounds_31 ?_
        obtain ⟨⟨r5, zs5, ns5, ak5, hd5, br5, dp5, de5, hn5, sm5⟩, hq5, hf⟩ := ob_some hf
        try dsimp only at hf
        refine kc_i (wr := []) (As := [.int hn4]) (rest := []) [0, 1, 2] [] [0, 1] 0 0 hCF (okX0_hold l hq5) (cwV 1 hts gX0_rounds_X0_hold rfl rfl rfl ydX0_hold ⟨Nat.le_of_ble_eq_true rfl, Nat.le_of_ble_eq_true rfl⟩) hK hP hD hS hA rfl rfl rfl rfl rfl (fun _ h => by cases h) rfl rfl rfl rfl hl.1 rfl (Nat.le_of_ble_eq_true rfl) dX0_rounds_34 ⟨Nat.zero_le _, Nat.zero_le _⟩ (fun H locs hP hD hS => ?_)
        have hP : va_P (dC, dI) vwCl (w0 o0 o1 o2 cA cB zs5 ns5 ak5 hd5 br5 dp5 de5 hn5 sm5) H := hP
        have hD : va_D A (w0 o0 o1 o2 cA cB zs5 ns5 ak5 hd5 br5 dp5 de5 hn5 sm5) := hD
        refine lv_if_eq (tgt := 63) hx hb dX0_rounds_37 (by decide) (fun c6 => ?_) (fun c6 => ?_)
        · have hf := (if_pos c6).symm.trans hf
          refine lv_iload_n hx hb dX0_rounds_63 rfl (lv_at hl 2 rfl) ?_
          refine lv_if_ne (tgt := 70) hx hb dX0_rounds_64 (by decide) (fun c7 => ?_) (fun c7 => ?_)
          · have hf := (if_neg c7).symm.trans hf
            refine lv_iinc (v := y4 + 1) (lv' := [(4, .int (y4 + 1)), (0, .ref o0), (1, .int y1), (2, .int y2), (3, .int y3)]) hx hb dX0_rounds_70 hl (k := 4) rfl (congrArg (fun t => y4 + t) (by decide)) (by decide) rfl (fun ls hl => ?_)
            refine lv_goto (tgt := 19) hx hb dX0_rounds_73 (by decide) ?_
            exact ih _ _ _ _ _ _ _ _ _ _ _ _ _ _ _ _ hf hP hD hS (lv_sub hl [1, 2, 3, 4, 0] rfl)
          · have hf := (if_pos c7).symm.trans hf
            refine lv_bipush (v := (-11)) hx hb dX0_rounds_67 (by decide) ?_
            obtain ⟨hv, hu⟩ := os_pair hf
            subst hu
            exact W.iret (v := (-11)) hx hb hr (fun t ht hW => k_endi hv hP hK hD hS ht hW) hS.2.2 dX0_rounds_69
        · have hf := (if_neg c6).symm.trans hf
          refine lv_iinc (v := y3 + 1) (lv' := [(3, .int (y3 + 1)), (0, .ref o0), (1, .int y1), (2, .int y2), (4, .int y4)]) hx hb dX0_rounds_40 hl (k := 3) rfl (congrArg (fun t => y3 + t) (by decide)) (by decide) rfl (fun ls hl => ?_)
          refine lv_aload_n hx hb dX0_rounds_43 rfl (lv_at hl 1 rfl) ?_
          obtain ⟨⟨r8, zs8, ns8, ak8, hd8, br8, dp8, de8, hn8, sm8⟩, hq8, hf⟩ := ob_some hf
          try dsimp only at hf
          refine kc_i (wr := []) (As := []) (rest := []) [0, 1, 2] [] [0, 1] 0 0 hCF (okX0_raiseAtHand l hq8) (cwV 0 hts gX0_rounds_X0_raiseAtHand rfl rfl rfl ydX0_raiseAtHand ⟨Nat.le_of_ble_eq_true rfl, Nat.le_of_ble_eq_true rfl⟩) hK hP hD hS hA rfl rfl rfl rfl rfl (fun _ h => by cases h) rfl rfl rfl rfl hl.1 rfl (Nat.le_of_ble_eq_true rfl) dX0_rounds_44 ⟨Nat.zero_le _, Nat.zero_le _⟩ (fun H locs hP hD hS => ?_)
          have hP : va_P (dC, dI) vwCl (w0 o0 o1 o2 cA cB zs8 ns8 ak8 hd8 br8 dp8 de8 hn8 sm8) H := hP
          have hD : va_D A (w0 o0 o1 o2 cA cB zs8 ns8 ak8 hd8 br8 dp8 de8 hn8 sm8) := hD
          refine lv_istore (lv' := [(5, .int r8), (3, .int (y3 + 1)), (0, .ref o0), (1, .int y1), (2, .int y2), (4, .int y4)]) hx hb dX0_rounds_47 hl (by decide) rfl (fun ls hl => ?_)
          refine lv_aload_n hx hb dX0_rounds_49 rfl (lv_at hl 2 rfl) ?_
          obtain ⟨⟨zs9, ns9, ak9, hd9, br9, dp9, de9, hn9, sm9⟩, hq9, hf⟩ := ob_some hf
          try dsimp only at hf
          refine kc_v (wr := []) (As := []) (rest := []) [0, 1, 2] [] [0, 1] 0 0 hCF (okX0_letGo l hq9) (cwV 0 hts gX0_rounds_X0_letGo rfl rfl rfl ydX0_letGo ⟨Nat.le_of_ble_eq_true rfl, Nat.le_of_ble_eq_true rfl⟩) hK hP hD hS hA rfl rfl rfl rfl rfl (fun _ h => by cases h) rfl rfl rfl rfl hl.1 rfl (Nat.le_of_ble_eq_true rfl) dX0_rounds_50 ⟨Nat.zero_le _, Nat.zero_le _⟩ (fun H locs hP hD hS => ?_)
          have hP : va_P (dC, dI) vwCl (w0 o0 o1 o2 cA cB zs9 ns9 ak9 hd9 br9 dp9 de9 hn9 sm9) H := hP
          have hD : va_D A (w0 o0 o1 o2 cA cB zs9 ns9 ak9 hd9 br9 dp9 de9 hn9 sm9) := hD
          refine lv_iload hx hb dX0_rounds_53 (lv_at hl 0 rfl) ?_
          refine lv_if_eq (tgt := 60) hx hb dX0_rounds_55 (by decide) (fun c10 => ?_) (fun c10 => ?_)
          · have hf := (if_pos c10).symm.trans hf
            refine lv_goto (tgt := 70) hx hb dX0_rounds_60 (by decide) ?_
            refine lv_iinc (v := y4 + 1) (lv' := [(4, .int (y4 + 1)), (5, .int r8), (3, .int (y3 + 1)), (0, .ref o0), (1, .int y1), (2, .int y2)]) hx hb dX0_rounds_70 hl (k := 5) rfl (congrArg (fun t => y4 + t) (by decide)) (by decide) rfl (fun ls hl => ?_)
            refine lv_goto (tgt := 19) hx hb dX0_rounds_73 (by decide) ?_
            exact ih _ _ _ _ _ _ _ _ _ _ _ _ _ _ _ _ hf hP hD hS (lv_sub hl [3, 4, 5, 2, 0] rfl)
          · have hf := (if_neg c10).symm.trans hf
            refine lv_iload_n hx hb dX0_rounds_58 rfl (lv_at hl 1 rfl) ?_
            obtain ⟨hv, hu⟩ := os_pair hf
            subst hu
            exact W.iret (v := y3 + 1) hx hb hr (fun t ht hW => k_endi hv hP hK hD hS ht hW) hS.2.2 dX0_rounds_59
  have hl := lv_entry ([.ref o0, .int x1, .int x2]) (n := 6) (Nat.le_of_ble_eq_true rfl)
  rw [lg_entry_eq]
  generalize (lg_sl ([.ref o0, .int x1, .int x2]) ++ List.replicate (6 - (lg_sl ([.ref o0, .int x1, .int x2])).length) Slot.unset).toArray = ls at hl ⊢
  have hl : lv_has ls 6 [(0, .ref o0), (1, .int x1), (2, .int x2)] := hl
  refine lv_iload_n hx hb dX0_rounds_0 rfl (lv_at hl 1 rfl) ?_
  refine lv_iconst (v := 1) hx hb dX0_rounds_1 (by decide) ?_
  refine lv_icmp_lt (tgt := 11) hx hb dX0_rounds_2 (by decide) (fun c1 => ?_) (fun c1 => ?_)
  · have hf := (if_pos c1).symm.trans hf
    refine lv_bipush (v := (-2)) hx hb dX0_rounds_11 (by decide) ?_
    obtain ⟨hv, hu⟩ := os_pair hf
    subst hu
    exact W.iret (v := (-2)) hx hb hr (fun t ht hW => k_endi hv hP hK hD hS ht hW) hS.2.2 dX0_rounds_13
  · have hf := (if_neg c1).symm.trans hf
    refine lv_iload_n hx hb dX0_rounds_5 rfl (lv_at hl 1 rfl) ?_
    refine lv_bipush (v := 20) hx hb dX0_rounds_6 (by decide) ?_
    refine lv_icmp_le (tgt := 14) hx hb dX0_rounds_8 (by decide) (fun c2 => ?_) (fun c2 => ?_)
    · have hf := (if_pos c2).symm.trans hf
      refine lv_iconst (v := 0) hx hb dX0_rounds_14 (by decide) ?_
      refine lv_istore_n (lv' := [(3, .int 0), (0, .ref o0), (1, .int x1), (2, .int x2)]) hx hb dX0_rounds_15 rfl hl (by decide) rfl (fun ls hl => ?_)
      refine lv_iconst (v := 0) hx hb dX0_rounds_16 (by decide) ?_
      refine lv_istore (lv' := [(4, .int 0), (3, .int 0), (0, .ref o0), (1, .int x1), (2, .int x2)]) hx hb dX0_rounds_17 hl (by decide) rfl (fun ls hl => ?_)
      exact loop19 21 _ _ _ _ _ _ _ _ _ _ _ _ _ _ _ _ hf hP hD hS (lv_sub hl [2, 3, 4, 1, 0] rfl)
    · have hf := (if_neg c2).symm.trans hf
      refine lv_bipush (v := (-2)) hx hb dX0_rounds_11 (by decide) ?_
      obtain ⟨hv, hu⟩ := os_pair hf
      subst hu
      exact W.iret (v := (-2)) hx hb hr (fun t ht hW => k_endi hv hP hK hD hS ht hW) hS.2.2 dX0_rounds_13
set_option maxHeartbeats 4000000 in
set_option maxRecDepth 100000 in
theorem okX0_bring (l : Launch) {dC : Nat → ClassId} {dI : Nat → Nat → Nat} {o0 o1 o2 : Nat} {cA cB : ClassId} {sz : Nat} {x1 x2 : Int32} {zs0 ns0 : Nat → Int32} {ak0 hd0 br0 dp0 de0 hn0 : Int32} {sm0 : Int64} {r : Int32} {st2 : S0} (hf : fX0_bring x1 x2 zs0 ns0 ak0 hd0 br0 dp0 de0 hn0 sm0 = some (r, st2)) : kMi l yX0_bring wsX0_bring ({ frames := 3, cells := 0, slots := 0, locals := 62 }) (dC, dI) vwCl [(cA, .int), (cB, .int)] (w0 o0 o1 o2 cA cB zs0 ns0 ak0 hd0 br0 dp0 de0 hn0 sm0) (w0t o0 o1 o2 cA cB st2) [.ref o0, .int x1, .int x2] sz r := by
  rw [fX0_bring] at hf
  refine Met.ofW (cc := cX0_bring) (maxL := 3) (ret := (some .int)) (by decide) rfl ?_
  intro p e s m args below meth c s₁ B hml hv
  obtain ⟨rfl, hsz, hP, hK, hD0⟩ := hv
  have hx := B.exec
  have hb := B.bytes
  have hr := B.returns
  have hts := atoms_spec (ws := wsX0_bring) B.pre
  have hown : s.vm.findClass RX0 = some m.cls := findClass_of_methodNamed B.named
  have hlocks := B.notSynchronized
  subst hsz
  have hD := hD0.self (sz := s.heap.size)
  generalize hAe : va_A (w0 o0 o1 o2 cA cB zs0 ns0 ak0 hd0 br0 dp0 de0 hn0 sm0) s.heap.size = A at hD ⊢
  have hA : ∀ q : Nat, s.heap.size ≤ q → A q := fun q h => by rw [← hAe]; exact Or.inr h
  have hS : va_S A s.heap s.heap [] := va_S.rf
  have hin0 : ∀ w ∈ wsX00, w ∈ wsX0_bring := fun w h => List.mem_cons_of_mem _ (List.mem_append_right _ h)
  have hCF : CallFix p m c cX0_bring 3 s _ wsX0_bring RX0 := ⟨hx, hb, hml, hown, hts⟩
  have hl := lv_entry ([.ref o0, .int x1, .int x2]) (n := 3) (Nat.le_of_ble_eq_true rfl)
  rw [lg_entry_eq]
  generalize (lg_sl ([.ref o0, .int x1, .int x2]) ++ List.replicate (3 - (lg_sl ([.ref o0, .int x1, .int x2])).length) Slot.unset).toArray = ls at hl ⊢
  have hl : lv_has ls 3 [(0, .ref o0), (1, .int x1), (2, .int x2)] := hl
  refine lv_iload_n hx hb dX0_bring_0 rfl (lv_at hl 1 rfl) ?_
  obtain ⟨r1, hq1, hf⟩ := ob_some hf
  try dsimp only at hf
  refine ks_i (wr := w0 o0 o1 o2 cA cB zs0 ns0 ak0 hd0 br0 dp0 de0 hn0 sm0) (As := [.int x1]) (rest := []) [0, 1, 2] hCF (okX0_isDesk l hq1) (va_cwS 1 hts gX0_bring_X0_isDesk rfl rfl rfl ydX0_isDesk ⟨Nat.le_of_ble_eq_true rfl, Nat.le_of_ble_eq_true rfl⟩) hK hP hD hS hA rfl rfl rfl hl.1 rfl (Nat.le_of_ble_eq_true rfl) dX0_bring_1 ⟨Nat.zero_le _, Nat.zero_le _⟩ (fun H locs hP hD hS => ?_)
  have hP : va_P (dC, dI) vwCl (w0 o0 o1 o2 cA cB zs0 ns0 ak0 hd0 br0 dp0 de0 hn0 sm0) H := hP
  have hD : va_D A (w0 o0 o1 o2 cA cB zs0 ns0 ak0 hd0 br0 dp0 de0 hn0 sm0) := hD
  refine lv_if_ne (tgt := 10) hx hb dX0_bring_4 (by decide) (fun c2 => ?_) (fun c2 => ?_)
  · have hf := (if_neg c2).symm.trans hf
    refine lv_aload_n hx hb dX0_bring_10 rfl (lv_at hl 0 rfl) ?_
    refine lv_iload_n hx hb dX0_bring_11 rfl (lv_at hl 1 rfl) ?_
    obtain ⟨⟨r3, zs3, ns3, ak3, hd3, br3, dp3, de3, hn3, sm3⟩, hq3, hf⟩ := ob_some hf
    try dsimp only at hf
    refine kc_i (wr := []) (As := [.int x1]) (rest := []) [0, 1, 2] [] [0, 1] 0 0 hCF (okX0_hold l hq3) (cwV 1 hts gX0_bring_X0_hold rfl rfl rfl ydX0_hold ⟨Nat.le_of_ble_eq_true rfl, Nat.le_of_ble_eq_true rfl⟩) hK hP hD hS hA rfl rfl rfl rfl rfl (fun _ h => by cases h) rfl rfl rfl rfl hl.1 rfl (Nat.le_of_ble_eq_true rfl) dX0_bring_12 ⟨Nat.zero_le _, Nat.zero_le _⟩ (fun H locs hP hD hS => ?_)
    have hP : va_P (dC, dI) vwCl (w0 o0 o1 o2 cA cB zs3 ns3 ak3 hd3 br3 dp3 de3 hn3 sm3) H := hP
    have hD : va_D A (w0 o0 o1 o2 cA cB zs3 ns3 ak3 hd3 br3 dp3 de3 hn3 sm3) := hD
    refine lv_if_ne (tgt := 21) hx hb dX0_bring_15 (by decide) (fun c4 => ?_) (fun c4 => ?_)
    · have hf := (if_neg c4).symm.trans hf
      refine lv_aload_n hx hb dX0_bring_21 rfl (lv_at hl 0 rfl) ?_
      refine lv_aload_n hx hb dX0_bring_22 rfl (lv_at hl 0 rfl) ?_
      refine lv_iload_n hx hb dX0_bring_23 rfl (lv_at hl 1 rfl) ?_
      refine lv_iload_n hx hb dX0_bring_24 rfl (lv_at hl 2 rfl) ?_
      obtain ⟨⟨r5, zs5, ns5, ak5, hd5, br5, dp5, de5, hn5, sm5⟩, hq5, hf⟩ := ob_some hf
      try dsimp only at hf
      refine kc_i (wr := []) (As := [.int x1, .int x2]) (rest := [.ref o0]) [0, 1, 2] [] [0, 1] 0 0 hCF (okX0_bringHeld l hq5) (cwV 2 hts gX0_bring_X0_bringHeld rfl rfl rfl ydX0_bringHeld ⟨Nat.le_of_ble_eq_true rfl, Nat.le_of_ble_eq_true rfl⟩) hK hP hD hS hA rfl rfl rfl rfl rfl (fun _ h => by cases h) rfl rfl rfl rfl hl.1 rfl (Nat.le_of_ble_eq_true rfl) dX0_bring_25 ⟨Nat.zero_le _, Nat.zero_le _⟩ (fun H locs hP hD hS => ?_)
      have hP : va_P (dC, dI) vwCl (w0 o0 o1 o2 cA cB zs5 ns5 ak5 hd5 br5 dp5 de5 hn5 sm5) H := hP
      have hD : va_D A (w0 o0 o1 o2 cA cB zs5 ns5 ak5 hd5 br5 dp5 de5 hn5 sm5) := hD
      obtain ⟨⟨r6, zs6, ns6, ak6, hd6, br6, dp6, de6, hn6, sm6⟩, hq6, hf⟩ := ob_some hf
      try dsimp only at hf
      refine kc_i (wr := []) (As := [.int r5]) (rest := []) [0, 1, 2] [] [0, 1] 0 0 hCF (okX0_release l hq6) (cwV 1 hts gX0_bring_X0_release rfl rfl rfl ydX0_release ⟨Nat.le_of_ble_eq_true rfl, Nat.le_of_ble_eq_true rfl⟩) hK hP hD hS hA rfl rfl rfl rfl rfl (fun _ h => by cases h) rfl rfl rfl rfl hl.1 rfl (Nat.le_of_ble_eq_true rfl) dX0_bring_28 ⟨Nat.zero_le _, Nat.zero_le _⟩ (fun H locs hP hD hS => ?_)
      have hP : va_P (dC, dI) vwCl (w0 o0 o1 o2 cA cB zs6 ns6 ak6 hd6 br6 dp6 de6 hn6 sm6) H := hP
      have hD : va_D A (w0 o0 o1 o2 cA cB zs6 ns6 ak6 hd6 br6 dp6 de6 hn6 sm6) := hD
      obtain ⟨hv, hu⟩ := os_pair hf
      subst hu
      exact W.iret (v := r6) hx hb hr (fun t ht hW => k_endi hv hP hK hD hS ht hW) hS.2.2 dX0_bring_31
    · have hf := (if_pos c4).symm.trans hf
      refine lv_bipush (v := (-11)) hx hb dX0_bring_18 (by decide) ?_
      obtain ⟨hv, hu⟩ := os_pair hf
      subst hu
      exact W.iret (v := (-11)) hx hb hr (fun t ht hW => k_endi hv hP hK hD hS ht hW) hS.2.2 dX0_bring_20
  · have hf := (if_pos c2).symm.trans hf
    refine lv_bipush (v := (-2)) hx hb dX0_bring_7 (by decide) ?_
    obtain ⟨hv, hu⟩ := os_pair hf
    subst hu
    exact W.iret (v := (-2)) hx hb hr (fun t ht hW => k_endi hv hP hK hD hS ht hW) hS.2.2 dX0_bring_9
set_option maxHeartbeats 4000000 in
set_option maxRecDepth 100000 in
theorem okX0_number (l : Launch) {dC : Nat → ClassId} {dI : Nat → Nat → Nat} {o0 o1 o2 : Nat} {cA cB : ClassId} {sz : Nat} {x1 x2 : Int32} {zs0 ns0 : Nat → Int32} {ak0 hd0 br0 dp0 de0 hn0 : Int32} {sm0 : Int64} {r : Int64} (hf : fX0_number x1 x2 zs0 ns0 ak0 hd0 br0 dp0 de0 hn0 sm0 = some r) : kMl l yX0_number wsX0_number ({ frames := 2, cells := 0, slots := 0, locals := 42 }) (dC, dI) vwCl [(cA, .int), (cB, .int)] (w0 o0 o1 o2 cA cB zs0 ns0 ak0 hd0 br0 dp0 de0 hn0 sm0) (w0 o0 o1 o2 cA cB zs0 ns0 ak0 hd0 br0 dp0 de0 hn0 sm0) [.ref o0, .int x1, .int x2] sz r := by
  rw [fX0_number] at hf
  refine Met.ofW (cc := cX0_number) (maxL := 3) (ret := (some .long)) (by decide) rfl ?_
  intro p e s m args below meth c s₁ B hml hv
  obtain ⟨rfl, hsz, hP, hK, hD0⟩ := hv
  have hx := B.exec
  have hb := B.bytes
  have hr := B.returns
  have hts := atoms_spec (ws := wsX0_number) B.pre
  have hown : s.vm.findClass RX0 = some m.cls := findClass_of_methodNamed B.named
  have hlocks := B.notSynchronized
  subst hsz
  have hD := hD0.self (sz := s.heap.size)
  generalize hAe : va_A (w0 o0 o1 o2 cA cB zs0 ns0 ak0 hd0 br0 dp0 de0 hn0 sm0) s.heap.size = A at hD ⊢
  have hA : ∀ q : Nat, s.heap.size ≤ q → A q := fun q h => by rw [← hAe]; exact Or.inr h
  have hS : va_S A s.heap s.heap [] := va_S.rf
  have hin0 : ∀ w ∈ wsX00, w ∈ wsX0_number := fun w h => List.mem_cons_of_mem _ (List.mem_append_right _ h)
  have hCF : CallFix p m c cX0_number 3 s _ wsX0_number RX0 := ⟨hx, hb, hml, hown, hts⟩
  have hl := lv_entry ([.ref o0, .int x1, .int x2]) (n := 3) (Nat.le_of_ble_eq_true rfl)
  rw [lg_entry_eq]
  generalize (lg_sl ([.ref o0, .int x1, .int x2]) ++ List.replicate (3 - (lg_sl ([.ref o0, .int x1, .int x2])).length) Slot.unset).toArray = ls at hl ⊢
  have hl : lv_has ls 3 [(0, .ref o0), (1, .int x1), (2, .int x2)] := hl
  refine lv_aload_n hx hb dX0_number_0 rfl (lv_at hl 0 rfl) ?_
  refine lv_iload_n hx hb dX0_number_1 rfl (lv_at hl 1 rfl) ?_
  refine lv_iload_n hx hb dX0_number_2 rfl (lv_at hl 2 rfl) ?_
  obtain ⟨r1, hq1, hf⟩ := ob_some hf
  try dsimp only at hf
  refine kc_i (wr := []) (As := [.int x1, .int x2]) (rest := []) [0, 1, 2] [] [0, 1] 0 0 hCF (okX0_hasPlace l hq1) (cwV 2 hts gX0_number_X0_hasPlace rfl rfl rfl ydX0_hasPlace ⟨Nat.le_of_ble_eq_true rfl, Nat.le_of_ble_eq_true rfl⟩) hK hP hD hS hA rfl rfl rfl rfl rfl (fun _ h => by cases h) rfl rfl rfl rfl hl.1 rfl (Nat.le_of_ble_eq_true rfl) dX0_number_3 ⟨Nat.zero_le _, Nat.zero_le _⟩ (fun H locs hP hD hS => ?_)
  have hP : va_P (dC, dI) vwCl (w0 o0 o1 o2 cA cB zs0 ns0 ak0 hd0 br0 dp0 de0 hn0 sm0) H := hP
  have hD : va_D A (w0 o0 o1 o2 cA cB zs0 ns0 ak0 hd0 br0 dp0 de0 hn0 sm0) := hD
  refine lv_if_eq (tgt := 19) hx hb dX0_number_6 (by decide) (fun c2 => ?_) (fun c2 => ?_)
  · have hf := (if_pos c2).symm.trans hf
    refine lv_ldc2 (v := (-9223372036854775808)) hx hb hown (hts (.constantLong RX0 76 (-9223372036854775808)) (by decide +kernel)) dX0_number_19 ?_
    have hv := Option.some.inj hf
    exact W.lret (v := (-9223372036854775808)) hx hb hr (fun t ht hW => k_endl hv hP hK hD hS ht hW) hS.2.2 dX0_number_22
  · have hf := (if_neg c2).symm.trans hf
    refine lv_aload_n hx hb dX0_number_9 rfl (lv_at hl 0 rfl) ?_
    refine lv_iload_n hx hb dX0_number_10 rfl (lv_at hl 1 rfl) ?_
    refine lv_iload_n hx hb dX0_number_11 rfl (lv_at hl 2 rfl) ?_
    obtain ⟨r3, hq3, hf⟩ := ob_some hf
    try dsimp only at hf
    refine kc_i (wr := []) (As := [.int x1, .int x2]) (rest := []) [0, 1, 2] [] [0, 1] 0 0 hCF (okX0_at l hq3) (cwV 2 hts gX0_number_X0_at rfl rfl rfl ydX0_at ⟨Nat.le_of_ble_eq_true rfl, Nat.le_of_ble_eq_true rfl⟩) hK hP hD hS hA rfl rfl rfl rfl rfl (fun _ h => by cases h) rfl rfl rfl rfl hl.1 rfl (Nat.le_of_ble_eq_true rfl) dX0_number_12 ⟨Nat.zero_le _, Nat.zero_le _⟩ (fun H locs hP hD hS => ?_)
    have hP : va_P (dC, dI) vwCl (w0 o0 o1 o2 cA cB zs0 ns0 ak0 hd0 br0 dp0 de0 hn0 sm0) H := hP
    have hD : va_D A (w0 o0 o1 o2 cA cB zs0 ns0 ak0 hd0 br0 dp0 de0 hn0 sm0) := hD
    refine lv_i2l hx hb dX0_number_15 rfl ?_
    refine lv_goto (tgt := 22) hx hb dX0_number_16 (by decide) ?_
    have hv := Option.some.inj hf
    exact W.lret (v := r3.toInt64) hx hb hr (fun t ht hW => k_endl hv hP hK hD hS ht hW) hS.2.2 dX0_number_22
set_option maxHeartbeats 4000000 in
set_option maxRecDepth 100000 in
theorem okX0_told (l : Launch) {dC : Nat → ClassId} {dI : Nat → Nat → Nat} {o0 o1 o2 : Nat} {cA cB : ClassId} {sz : Nat} {x1 : Int32} {zs0 ns0 : Nat → Int32} {ak0 hd0 br0 dp0 de0 hn0 : Int32} {sm0 : Int64} {r : Int64} (hf : fX0_told x1 zs0 ns0 ak0 hd0 br0 dp0 de0 hn0 sm0 = some r) : kMl l yX0_told wsX0_told ({ frames := 3, cells := 0, slots := 0, locals := 63 }) (dC, dI) vwCl [(cA, .int), (cB, .int)] (w0 o0 o1 o2 cA cB zs0 ns0 ak0 hd0 br0 dp0 de0 hn0 sm0) (w0 o0 o1 o2 cA cB zs0 ns0 ak0 hd0 br0 dp0 de0 hn0 sm0) [.ref o0, .int x1] sz r := by
  rw [fX0_told] at hf
  refine Met.ofW (cc := cX0_told) (maxL := 2) (ret := (some .long)) (by decide) rfl ?_
  intro p e s m args below meth c s₁ B hml hv
  obtain ⟨rfl, hsz, hP, hK, hD0⟩ := hv
  have hx := B.exec
  have hb := B.bytes
  have hr := B.returns
  have hts := atoms_spec (ws := wsX0_told) B.pre
  have hown : s.vm.findClass RX0 = some m.cls := findClass_of_methodNamed B.named
  have hlocks := B.notSynchronized
  subst hsz
  have hD := hD0.self (sz := s.heap.size)
  generalize hAe : va_A (w0 o0 o1 o2 cA cB zs0 ns0 ak0 hd0 br0 dp0 de0 hn0 sm0) s.heap.size = A at hD ⊢
  have hA : ∀ q : Nat, s.heap.size ≤ q → A q := fun q h => by rw [← hAe]; exact Or.inr h
  have hS : va_S A s.heap s.heap [] := va_S.rf
  have hin0 : ∀ w ∈ wsX00, w ∈ wsX0_told := fun w h => List.mem_cons_of_mem _ (List.mem_append_right _ h)
  have hfl54 := hts (.fieldLink RX0 54 "CountRoom" "hand" "I") (by decide +kernel)
  have hfl78 := hts (.fieldLink RX0 78 "CountRoom" "asked" "I") (by decide +kernel)
  have hfl81 := hts (.fieldLink RX0 81 "CountRoom" "held" "I") (by decide +kernel)
  have hfl84 := hts (.fieldLink RX0 84 "CountRoom" "broken" "I") (by decide +kernel)
  have hfl87 := hts (.fieldLink RX0 87 "CountRoom" "depth" "I") (by decide +kernel)
  have hfl90 := hts (.fieldLink RX0 90 "CountRoom" "deepest" "I") (by decide +kernel)
  have hfl97 := hts (.fieldLink RX0 97 "CountRoom" "sum" "J") (by decide +kernel)
  have hCF : CallFix p m c cX0_told 2 s _ wsX0_told RX0 := ⟨hx, hb, hml, hown, hts⟩
  have hl := lv_entry ([.ref o0, .int x1]) (n := 2) (Nat.le_of_ble_eq_true rfl)
  rw [lg_entry_eq]
  generalize (lg_sl ([.ref o0, .int x1]) ++ List.replicate (2 - (lg_sl ([.ref o0, .int x1])).length) Slot.unset).toArray = ls at hl ⊢
  have hl : lv_has ls 2 [(0, .ref o0), (1, .int x1)] := hl
  refine lv_iload_n hx hb dX0_told_0 rfl (lv_at hl 1 rfl) ?_
  by_cases c1_0 : x1 = 0
  · have hf := (if_pos c1_0).symm.trans hf
    refine lv_tableIn (off := 47) (tgt := 48) hx hb dX0_told_1 (by rw [c1_0]; decide) (by rw [c1_0]; decide) (by rw [c1_0]; decide) (by decide) ?_
    refine lv_aload_n hx hb dX0_told_48 rfl (lv_at hl 0 rfl) ?_
    refine va_get (D := (dC, dI)) (ci := 0) (v := .int ak0) (C := RX0) (T := TX0) (N := 9) hx hb hts hin0 hown hK hP 0 rfl rfl 2 (by decide) hfl78 (fun _ h9 => h9) rfl dX0_told_49 ?_
    refine lv_i2l hx hb dX0_told_52 rfl ?_
    have hv := Option.some.inj hf
    exact W.lret (v := ak0.toInt64) hx hb hr (fun t ht hW => k_endl hv hP hK hD hS ht hW) hS.2.2 dX0_told_53
  have hf := (if_neg c1_0).symm.trans hf
  by_cases c1_1 : x1 = 1
  · have hf := (if_pos c1_1).symm.trans hf
    refine lv_tableIn (off := 53) (tgt := 54) hx hb dX0_told_1 (by rw [c1_1]; decide) (by rw [c1_1]; decide) (by rw [c1_1]; decide) (by decide) ?_
    refine lv_aload_n hx hb dX0_told_54 rfl (lv_at hl 0 rfl) ?_
    refine va_get (D := (dC, dI)) (ci := 0) (v := .int hd0) (C := RX0) (T := TX0) (N := 9) hx hb hts hin0 hown hK hP 0 rfl rfl 3 (by decide) hfl81 (fun _ h9 => h9) rfl dX0_told_55 ?_
    refine lv_i2l hx hb dX0_told_58 rfl ?_
    have hv := Option.some.inj hf
    exact W.lret (v := hd0.toInt64) hx hb hr (fun t ht hW => k_endl hv hP hK hD hS ht hW) hS.2.2 dX0_told_59
  have hf := (if_neg c1_1).symm.trans hf
  by_cases c1_2 : x1 = 2
  · have hf := (if_pos c1_2).symm.trans hf
    refine lv_tableIn (off := 59) (tgt := 60) hx hb dX0_told_1 (by rw [c1_2]; decide) (by rw [c1_2]; decide) (by rw [c1_2]; decide) (by decide) ?_
    refine lv_aload_n hx hb dX0_told_60 rfl (lv_at hl 0 rfl) ?_
    refine va_get (D := (dC, dI)) (ci := 0) (v := .int br0) (C := RX0) (T := TX0) (N := 9) hx hb hts hin0 hown hK hP 0 rfl rfl 4 (by decide) hfl84 (fun _ h9 => h9) rfl dX0_told_61 ?_
    refine lv_i2l hx hb dX0_told_64 rfl ?_
    have hv := Option.some.inj hf
    exact W.lret (v := br0.toInt64) hx hb hr (fun t ht hW => k_endl hv hP hK hD hS ht hW) hS.2.2 dX0_told_65
  have hf := (if_neg c1_2).symm.trans hf
  by_cases c1_3 : x1 = 3
  · have hf := (if_pos c1_3).symm.trans hf
    refine lv_tableIn (off := 65) (tgt := 66) hx hb dX0_told_1 (by rw [c1_3]; decide) (by rw [c1_3]; decide) (by rw [c1_3]; decide) (by decide) ?_
    refine lv_aload_n hx hb dX0_told_66 rfl (lv_at hl 0 rfl) ?_
    refine va_get (D := (dC, dI)) (ci := 0) (v := .int dp0) (C := RX0) (T := TX0) (N := 9) hx hb hts hin0 hown hK hP 0 rfl rfl 5 (by decide) hfl87 (fun _ h9 => h9) rfl dX0_told_67 ?_
    refine lv_i2l hx hb dX0_told_70 rfl ?_
    have hv := Option.some.inj hf
    exact W.lret (v := dp0.toInt64) hx hb hr (fun t ht hW => k_endl hv hP hK hD hS ht hW) hS.2.2 dX0_told_71
  have hf := (if_neg c1_3).symm.trans hf
  by_cases c1_4 : x1 = 4
  · have hf := (if_pos c1_4).symm.trans hf
    refine lv_tableIn (off := 71) (tgt := 72) hx hb dX0_told_1 (by rw [c1_4]; decide) (by rw [c1_4]; decide) (by rw [c1_4]; decide) (by decide) ?_
    refine lv_aload_n hx hb dX0_told_72 rfl (lv_at hl 0 rfl) ?_
    refine va_get (D := (dC, dI)) (ci := 0) (v := .int de0) (C := RX0) (T := TX0) (N := 9) hx hb hts hin0 hown hK hP 0 rfl rfl 6 (by decide) hfl90 (fun _ h9 => h9) rfl dX0_told_73 ?_
    refine lv_i2l hx hb dX0_told_76 rfl ?_
    have hv := Option.some.inj hf
    exact W.lret (v := de0.toInt64) hx hb hr (fun t ht hW => k_endl hv hP hK hD hS ht hW) hS.2.2 dX0_told_77
  have hf := (if_neg c1_4).symm.trans hf
  by_cases c1_5 : x1 = 5
  · have hf := (if_pos c1_5).symm.trans hf
    refine lv_tableIn (off := 77) (tgt := 78) hx hb dX0_told_1 (by rw [c1_5]; decide) (by rw [c1_5]; decide) (by rw [c1_5]; decide) (by decide) ?_
    refine lv_aload_n hx hb dX0_told_78 rfl (lv_at hl 0 rfl) ?_
    refine va_get (D := (dC, dI)) (ci := 0) (v := .int hn0) (C := RX0) (T := TX0) (N := 9) hx hb hts hin0 hown hK hP 0 rfl rfl 7 (by decide) hfl54 (fun _ h9 => h9) rfl dX0_told_79 ?_
    refine lv_i2l hx hb dX0_told_82 rfl ?_
    have hv := Option.some.inj hf
    exact W.lret (v := hn0.toInt64) hx hb hr (fun t ht hW => k_endl hv hP hK hD hS ht hW) hS.2.2 dX0_told_83
  have hf := (if_neg c1_5).symm.trans hf
  by_cases c1_6 : x1 = 6
  · have hf := (if_pos c1_6).symm.trans hf
    refine lv_tableIn (off := 83) (tgt := 84) hx hb dX0_told_1 (by rw [c1_6]; decide) (by rw [c1_6]; decide) (by rw [c1_6]; decide) (by decide) ?_
    refine lv_aload_n hx hb dX0_told_84 rfl (lv_at hl 0 rfl) ?_
    obtain ⟨r2, hq2, hf⟩ := ob_some hf
    try dsimp only at hf
    refine kc_i (wr := []) (As := []) (rest := []) [0, 1, 2] [] [0, 1] 0 0 hCF (okX0_countThere l hq2) (cwV 0 hts gX0_told_X0_countThere rfl rfl rfl ydX0_countThere ⟨Nat.le_of_ble_eq_true rfl, Nat.le_of_ble_eq_true rfl⟩) hK hP hD hS hA rfl rfl rfl rfl rfl (fun _ h => by cases h) rfl rfl rfl rfl hl.1 rfl (Nat.le_of_ble_eq_true rfl) dX0_told_85 ⟨Nat.zero_le _, Nat.zero_le _⟩ (fun H locs hP hD hS => ?_)
    have hP : va_P (dC, dI) vwCl (w0 o0 o1 o2 cA cB zs0 ns0 ak0 hd0 br0 dp0 de0 hn0 sm0) H := hP
    have hD : va_D A (w0 o0 o1 o2 cA cB zs0 ns0 ak0 hd0 br0 dp0 de0 hn0 sm0) := hD
    refine lv_i2l hx hb dX0_told_88 rfl ?_
    have hv := Option.some.inj hf
    exact W.lret (v := r2.toInt64) hx hb hr (fun t ht hW => k_endl hv hP hK hD hS ht hW) hS.2.2 dX0_told_89
  have hf := (if_neg c1_6).symm.trans hf
  by_cases c1_7 : x1 = 7
  · have hf := (if_pos c1_7).symm.trans hf
    refine lv_tableIn (off := 89) (tgt := 90) hx hb dX0_told_1 (by rw [c1_7]; decide) (by rw [c1_7]; decide) (by rw [c1_7]; decide) (by decide) ?_
    refine lv_aload_n hx hb dX0_told_90 rfl (lv_at hl 0 rfl) ?_
    refine va_get (D := (dC, dI)) (ci := 0) (v := .long sm0) (C := RX0) (T := TX0) (N := 9) hx hb hts hin0 hown hK hP 0 rfl rfl 8 (by decide) hfl97 (fun _ h9 => h9) rfl dX0_told_91 ?_
    have hv := Option.some.inj hf
    exact W.lret (v := sm0) hx hb hr (fun t ht hW => k_endl hv hP hK hD hS ht hW) hS.2.2 dX0_told_94
  have hf := (if_neg c1_7).symm.trans hf
  refine lv_tableOut (tgt := 95) hx hb dX0_told_1 (sw_eight c1_0 c1_1 c1_2 c1_3 c1_4 c1_5 c1_6 c1_7) (by decide) ?_
  refine lv_ldc2 (v := (-2)) hx hb hown (hts (.constantLong RX0 101 (-2)) (by decide +kernel)) dX0_told_95 ?_
  have hv := Option.some.inj hf
  exact W.lret (v := (-2)) hx hb hr (fun t ht hW => k_endl hv hP hK hD hS ht hW) hS.2.2 dX0_told_98
