/-! contracts, by program (wip/gen.py) -/
set_option maxHeartbeats 4000000 in
set_option maxRecDepth 100000 in
theorem okX0_isFailure (l : Launch) {dC : Nat → ClassId} {dI : Nat → Nat → Nat} {sz : Nat} {x1 : Int32}  {r : Int32} (hf : fX0_isFailure x1 = some r) : kMi l yX0_isFailure wsX0_isFailure ({ frames := 0, cells := 0, slots := 0, locals := 0 }) (dC, dI) vwCl [] [] [] [.int x1] sz r := by
  rw [fX0_isFailure] at hf
  refine Met.ofW (cc := cX0_isFailure) (maxL := 1) (ret := (some .boolean)) (by decide) rfl ?_
  intro p e s m args below meth c s₁ B hml hv
  obtain ⟨rfl, hsz, hP, hK, hD0⟩ := hv
  have hx := B.exec
  have hb := B.bytes
  have hr := B.returns
  have hts := atoms_spec (ws := wsX0_isFailure) B.pre
  have hown : s.vm.findClass RX0 = some m.cls := findClass_of_methodNamed B.named
  have hlocks := B.notSynchronized
  subst hsz
  have hD := hD0.self (sz := s.heap.size)
  generalize hAe : va_A [] s.heap.size = A at hD ⊢
  have hA : ∀ q : Nat, s.heap.size ≤ q → A q := fun q h => by rw [← hAe]; exact Or.inr h
  have hS : va_S A s.heap s.heap [] := va_S.rf
  have hCF : CallFix p m c cX0_isFailure 1 s _ wsX0_isFailure RX0 := ⟨hx, hb, hml, hown, hts⟩
  have hl := lv_entry ([.int x1]) (n := 1) (Nat.le_of_ble_eq_true rfl)
  rw [lg_entry_eq]
  generalize (lg_sl ([.int x1]) ++ List.replicate (1 - (lg_sl ([.int x1])).length) Slot.unset).toArray = ls at hl ⊢
  have hl : lv_has ls 1 [(0, .int x1)] := hl
  refine lv_iload_n hx hb dX0_isFailure_0 rfl (lv_at hl 0 rfl) ?_
  refine lv_bipush (v := (-11)) hx hb dX0_isFailure_1 (by decide) ?_
  refine lv_icmp_gt (tgt := 10) hx hb dX0_isFailure_3 (by decide) (fun c1 => ?_) (fun c1 => ?_)
  · have hf := (if_pos c1).symm.trans hf
    refine lv_iconst (v := 0) hx hb dX0_isFailure_10 (by decide) ?_
    have hv := Option.some.inj hf
    exact W.zret (v := 0) hx hb hr (by decide) (fun t ht hW => k_endi hv hP hK hD hS ht hW) hS.2.2 dX0_isFailure_11
  · have hf := (if_neg c1).symm.trans hf
    refine lv_iconst (v := 1) hx hb dX0_isFailure_6 (by decide) ?_
    refine lv_goto (tgt := 11) hx hb dX0_isFailure_7 (by decide) ?_
    have hv := Option.some.inj hf
    exact W.zret (v := 1) hx hb hr (by decide) (fun t ht hW => k_endi hv hP hK hD hS ht hW) hS.2.2 dX0_isFailure_11
set_option maxHeartbeats 4000000 in
set_option maxRecDepth 100000 in
theorem okX0_isDesk (l : Launch) {dC : Nat → ClassId} {dI : Nat → Nat → Nat} {sz : Nat} {x1 : Int32}  {r : Int32} (hf : fX0_isDesk x1 = some r) : kMi l yX0_isDesk wsX0_isDesk ({ frames := 0, cells := 0, slots := 0, locals := 0 }) (dC, dI) vwCl [] [] [] [.int x1] sz r := by
  rw [fX0_isDesk] at hf
  refine Met.ofW (cc := cX0_isDesk) (maxL := 1) (ret := (some .boolean)) (by decide) rfl ?_
  intro p e s m args below meth c s₁ B hml hv
  obtain ⟨rfl, hsz, hP, hK, hD0⟩ := hv
  have hx := B.exec
  have hb := B.bytes
  have hr := B.returns
  have hts := atoms_spec (ws := wsX0_isDesk) B.pre
  have hown : s.vm.findClass RX0 = some m.cls := findClass_of_methodNamed B.named
  have hlocks := B.notSynchronized
  subst hsz
  have hD := hD0.self (sz := s.heap.size)
  generalize hAe : va_A [] s.heap.size = A at hD ⊢
  have hA : ∀ q : Nat, s.heap.size ≤ q → A q := fun q h => by rw [← hAe]; exact Or.inr h
  have hS : va_S A s.heap s.heap [] := va_S.rf
  have hCF : CallFix p m c cX0_isDesk 1 s _ wsX0_isDesk RX0 := ⟨hx, hb, hml, hown, hts⟩
  have hl := lv_entry ([.int x1]) (n := 1) (Nat.le_of_ble_eq_true rfl)
  rw [lg_entry_eq]
  generalize (lg_sl ([.int x1]) ++ List.replicate (1 - (lg_sl ([.int x1])).length) Slot.unset).toArray = ls at hl ⊢
  have hl : lv_has ls 1 [(0, .int x1)] := hl
  refine lv_iload_n hx hb dX0_isDesk_0 rfl (lv_at hl 0 rfl) ?_
  refine lv_if_lt (tgt := 14) hx hb dX0_isDesk_1 (by decide) (fun c1 => ?_) (fun c1 => ?_)
  · have hf := (if_pos c1).symm.trans hf
    refine lv_iconst (v := 0) hx hb dX0_isDesk_14 (by decide) ?_
    have hv := Option.some.inj hf
    exact W.zret (v := 0) hx hb hr (by decide) (fun t ht hW => k_endi hv hP hK hD hS ht hW) hS.2.2 dX0_isDesk_15
  · have hf := (if_neg c1).symm.trans hf
    refine lv_iload_n hx hb dX0_isDesk_4 rfl (lv_at hl 0 rfl) ?_
    refine lv_bipush (v := 8) hx hb dX0_isDesk_5 (by decide) ?_
    refine lv_icmp_ge (tgt := 14) hx hb dX0_isDesk_7 (by decide) (fun c2 => ?_) (fun c2 => ?_)
    · have hf := (if_pos c2).symm.trans hf
      refine lv_iconst (v := 0) hx hb dX0_isDesk_14 (by decide) ?_
      have hv := Option.some.inj hf
      exact W.zret (v := 0) hx hb hr (by decide) (fun t ht hW => k_endi hv hP hK hD hS ht hW) hS.2.2 dX0_isDesk_15
    · have hf := (if_neg c2).symm.trans hf
      refine lv_iconst (v := 1) hx hb dX0_isDesk_10 (by decide) ?_
      refine lv_goto (tgt := 15) hx hb dX0_isDesk_11 (by decide) ?_
      have hv := Option.some.inj hf
      exact W.zret (v := 1) hx hb hr (by decide) (fun t ht hW => k_endi hv hP hK hD hS ht hW) hS.2.2 dX0_isDesk_15
set_option maxHeartbeats 4000000 in
set_option maxRecDepth 100000 in
theorem okX0_isThere (l : Launch) {dC : Nat → ClassId} {dI : Nat → Nat → Nat} {o0 o1 o2 : Nat} {cA cB : ClassId} {sz : Nat} {x1 : Int32} {zs0 ns0 : Nat → Int32} {ak0 hd0 br0 dp0 de0 hn0 : Int32} {sm0 : Int64} {r : Int32} (hf : fX0_isThere x1 zs0 ns0 ak0 hd0 br0 dp0 de0 hn0 sm0 = some r) : kMi l yX0_isThere wsX0_isThere ({ frames := 1, cells := 0, slots := 0, locals := 20 }) (dC, dI) vwCl [(cA, .int), (cB, .int)] (w0 o0 o1 o2 cA cB zs0 ns0 ak0 hd0 br0 dp0 de0 hn0 sm0) (w0 o0 o1 o2 cA cB zs0 ns0 ak0 hd0 br0 dp0 de0 hn0 sm0) [.ref o0, .int x1] sz r := by
  rw [fX0_isThere] at hf
  refine Met.ofW (cc := cX0_isThere) (maxL := 2) (ret := (some .boolean)) (by decide) rfl ?_
  intro p e s m args below meth c s₁ B hml hv
  obtain ⟨rfl, hsz, hP, hK, hD0⟩ := hv
  have hx := B.exec
  have hb := B.bytes
  have hr := B.returns
  have hts := atoms_spec (ws := wsX0_isThere) B.pre
  have hown : s.vm.findClass RX0 = some m.cls := findClass_of_methodNamed B.named
  have hlocks := B.notSynchronized
  subst hsz
  have hD := hD0.self (sz := s.heap.size)
  generalize hAe : va_A (w0 o0 o1 o2 cA cB zs0 ns0 ak0 hd0 br0 dp0 de0 hn0 sm0) s.heap.size = A at hD ⊢
  have hA : ∀ q : Nat, s.heap.size ≤ q → A q := fun q h => by rw [← hAe]; exact Or.inr h
  have hS : va_S A s.heap s.heap [] := va_S.rf
  have hin0 : ∀ w ∈ wsX00, w ∈ wsX0_isThere := fun w h => List.mem_cons_of_mem _ (List.mem_append_right _ h)
  have hfl9 := hts (.fieldLink RX0 9 "CountRoom" "sizes" "[I") (by decide +kernel)
  have hCF : CallFix p m c cX0_isThere 2 s _ wsX0_isThere RX0 := ⟨hx, hb, hml, hown, hts⟩
  have hl := lv_entry ([.ref o0, .int x1]) (n := 2) (Nat.le_of_ble_eq_true rfl)
  rw [lg_entry_eq]
  generalize (lg_sl ([.ref o0, .int x1]) ++ List.replicate (2 - (lg_sl ([.ref o0, .int x1])).length) Slot.unset).toArray = ls at hl ⊢
  have hl : lv_has ls 2 [(0, .ref o0), (1, .int x1)] := hl
  refine lv_iload_n hx hb dX0_isThere_0 rfl (lv_at hl 1 rfl) ?_
  obtain ⟨r1, hq1, hf⟩ := ob_some hf
  try dsimp only at hf
  refine ks_i (wr := w0 o0 o1 o2 cA cB zs0 ns0 ak0 hd0 br0 dp0 de0 hn0 sm0) (As := [.int x1]) (rest := []) [0, 1, 2] hCF (okX0_isDesk l hq1) (va_cwS 1 hts gX0_isThere_X0_isDesk rfl rfl rfl ydX0_isDesk ⟨Nat.le_of_ble_eq_true rfl, Nat.le_of_ble_eq_true rfl⟩) hK hP hD hS hA rfl rfl rfl hl.1 rfl (Nat.le_of_ble_eq_true rfl) dX0_isThere_1 ⟨Nat.zero_le _, Nat.zero_le _⟩ (fun H locs hP hD hS => ?_)
  have hP : va_P (dC, dI) vwCl (w0 o0 o1 o2 cA cB zs0 ns0 ak0 hd0 br0 dp0 de0 hn0 sm0) H := hP
  have hD : va_D A (w0 o0 o1 o2 cA cB zs0 ns0 ak0 hd0 br0 dp0 de0 hn0 sm0) := hD
  refine lv_if_eq (tgt := 20) hx hb dX0_isThere_4 (by decide) (fun c2 => ?_) (fun c2 => ?_)
  · have hf := (if_pos c2).symm.trans hf
    refine lv_iconst (v := 0) hx hb dX0_isThere_20 (by decide) ?_
    have hv := Option.some.inj hf
    exact W.zret (v := 0) hx hb hr (by decide) (fun t ht hW => k_endi hv hP hK hD hS ht hW) hS.2.2 dX0_isThere_21
  · have hf := (if_neg c2).symm.trans hf
    refine lv_aload_n hx hb dX0_isThere_7 rfl (lv_at hl 0 rfl) ?_
    refine va_get (D := (dC, dI)) (ci := 0) (v := .ref o1) (C := RX0) (T := TX0) (N := 9) hx hb hts hin0 hown hK hP 0 rfl rfl 0 (by decide) hfl9 (fun _ h9 => h9) rfl dX0_isThere_8 ?_
    refine lv_iload_n hx hb dX0_isThere_11 rfl (lv_at hl 1 rfl) ?_
    obtain ⟨hi3, hf⟩ := og_no hf
    refine va_iald hx hb hK hP 1 0 rfl rfl hi3 dX0_isThere_12 ?_
    refine lv_if_le (tgt := 20) hx hb dX0_isThere_13 (by decide) (fun c4 => ?_) (fun c4 => ?_)
    · have hf := (if_pos c4).symm.trans hf
      refine lv_iconst (v := 0) hx hb dX0_isThere_20 (by decide) ?_
      have hv := Option.some.inj hf
      exact W.zret (v := 0) hx hb hr (by decide) (fun t ht hW => k_endi hv hP hK hD hS ht hW) hS.2.2 dX0_isThere_21
    · have hf := (if_neg c4).symm.trans hf
      refine lv_iconst (v := 1) hx hb dX0_isThere_16 (by decide) ?_
      refine lv_goto (tgt := 21) hx hb dX0_isThere_17 (by decide) ?_
      have hv := Option.some.inj hf
      exact W.zret (v := 1) hx hb hr (by decide) (fun t ht hW => k_endi hv hP hK hD hS ht hW) hS.2.2 dX0_isThere_21
set_option maxHeartbeats 4000000 in
set_option maxRecDepth 100000 in
theorem okX0_hasPlace (l : Launch) {dC : Nat → ClassId} {dI : Nat → Nat → Nat} {o0 o1 o2 : Nat} {cA cB : ClassId} {sz : Nat} {x1 x2 : Int32} {zs0 ns0 : Nat → Int32} {ak0 hd0 br0 dp0 de0 hn0 : Int32} {sm0 : Int64} {r : Int32} (hf : fX0_hasPlace x1 x2 zs0 ns0 ak0 hd0 br0 dp0 de0 hn0 sm0 = some r) : kMi l yX0_hasPlace wsX0_hasPlace ({ frames := 1, cells := 0, slots := 0, locals := 20 }) (dC, dI) vwCl [(cA, .int), (cB, .int)] (w0 o0 o1 o2 cA cB zs0 ns0 ak0 hd0 br0 dp0 de0 hn0 sm0) (w0 o0 o1 o2 cA cB zs0 ns0 ak0 hd0 br0 dp0 de0 hn0 sm0) [.ref o0, .int x1, .int x2] sz r := by
  rw [fX0_hasPlace] at hf
  refine Met.ofW (cc := cX0_hasPlace) (maxL := 3) (ret := (some .boolean)) (by decide) rfl ?_
  intro p e s m args below meth c s₁ B hml hv
  obtain ⟨rfl, hsz, hP, hK, hD0⟩ := hv
  have hx := B.exec
  have hb := B.bytes
  have hr := B.returns
  have hts := atoms_spec (ws := wsX0_hasPlace) B.pre
  have hown : s.vm.findClass RX0 = some m.cls := findClass_of_methodNamed B.named
  have hlocks := B.notSynchronized
  subst hsz
  have hD := hD0.self (sz := s.heap.size)
  generalize hAe : va_A (w0 o0 o1 o2 cA cB zs0 ns0 ak0 hd0 br0 dp0 de0 hn0 sm0) s.heap.size = A at hD ⊢
  have hA : ∀ q : Nat, s.heap.size ≤ q → A q := fun q h => by rw [← hAe]; exact Or.inr h
  have hS : va_S A s.heap s.heap [] := va_S.rf
  have hin0 : ∀ w ∈ wsX00, w ∈ wsX0_hasPlace := fun w h => List.mem_cons_of_mem _ (List.mem_append_right _ h)
  have hfl9 := hts (.fieldLink RX0 9 "CountRoom" "sizes" "[I") (by decide +kernel)
  have hCF : CallFix p m c cX0_hasPlace 3 s _ wsX0_hasPlace RX0 := ⟨hx, hb, hml, hown, hts⟩
  have hl := lv_entry ([.ref o0, .int x1, .int x2]) (n := 3) (Nat.le_of_ble_eq_true rfl)
  rw [lg_entry_eq]
  generalize (lg_sl ([.ref o0, .int x1, .int x2]) ++ List.replicate (3 - (lg_sl ([.ref o0, .int x1, .int x2])).length) Slot.unset).toArray = ls at hl ⊢
  have hl : lv_has ls 3 [(0, .ref o0), (1, .int x1), (2, .int x2)] := hl
  refine lv_iload_n hx hb dX0_hasPlace_0 rfl (lv_at hl 1 rfl) ?_
  obtain ⟨r1, hq1, hf⟩ := ob_some hf
  try dsimp only at hf
  refine ks_i (wr := w0 o0 o1 o2 cA cB zs0 ns0 ak0 hd0 br0 dp0 de0 hn0 sm0) (As := [.int x1]) (rest := []) [0, 1, 2] hCF (okX0_isDesk l hq1) (va_cwS 1 hts gX0_hasPlace_X0_isDesk rfl rfl rfl ydX0_isDesk ⟨Nat.le_of_ble_eq_true rfl, Nat.le_of_ble_eq_true rfl⟩) hK hP hD hS hA rfl rfl rfl hl.1 rfl (Nat.le_of_ble_eq_true rfl) dX0_hasPlace_1 ⟨Nat.zero_le _, Nat.zero_le _⟩ (fun H locs hP hD hS => ?_)
  have hP : va_P (dC, dI) vwCl (w0 o0 o1 o2 cA cB zs0 ns0 ak0 hd0 br0 dp0 de0 hn0 sm0) H := hP
  have hD : va_D A (w0 o0 o1 o2 cA cB zs0 ns0 ak0 hd0 br0 dp0 de0 hn0 sm0) := hD
  refine lv_if_eq (tgt := 25) hx hb dX0_hasPlace_4 (by decide) (fun c2 => ?_) (fun c2 => ?_)
  · have hf := (if_pos c2).symm.trans hf
    refine lv_iconst (v := 0) hx hb dX0_hasPlace_25 (by decide) ?_
    have hv := Option.some.inj hf
    exact W.zret (v := 0) hx hb hr (by decide) (fun t ht hW => k_endi hv hP hK hD hS ht hW) hS.2.2 dX0_hasPlace_26
  · have hf := (if_neg c2).symm.trans hf
    refine lv_iload_n hx hb dX0_hasPlace_7 rfl (lv_at hl 2 rfl) ?_
    refine lv_if_lt (tgt := 25) hx hb dX0_hasPlace_8 (by decide) (fun c3 => ?_) (fun c3 => ?_)
    · have hf := (if_pos c3).symm.trans hf
      refine lv_iconst (v := 0) hx hb dX0_hasPlace_25 (by decide) ?_
      have hv := Option.some.inj hf
      exact W.zret (v := 0) hx hb hr (by decide) (fun t ht hW => k_endi hv hP hK hD hS ht hW) hS.2.2 dX0_hasPlace_26
    · have hf := (if_neg c3).symm.trans hf
      refine lv_iload_n hx hb dX0_hasPlace_11 rfl (lv_at hl 2 rfl) ?_
      refine lv_aload_n hx hb dX0_hasPlace_12 rfl (lv_at hl 0 rfl) ?_
      refine va_get (D := (dC, dI)) (ci := 0) (v := .ref o1) (C := RX0) (T := TX0) (N := 9) hx hb hts hin0 hown hK hP 0 rfl rfl 0 (by decide) hfl9 (fun _ h9 => h9) rfl dX0_hasPlace_13 ?_
      refine lv_iload_n hx hb dX0_hasPlace_16 rfl (lv_at hl 1 rfl) ?_
      obtain ⟨hi4, hf⟩ := og_no hf
      refine va_iald hx hb hK hP 1 0 rfl rfl hi4 dX0_hasPlace_17 ?_
      refine lv_icmp_ge (tgt := 25) hx hb dX0_hasPlace_18 (by decide) (fun c5 => ?_) (fun c5 => ?_)
      · have hf := (if_pos c5).symm.trans hf
        refine lv_iconst (v := 0) hx hb dX0_hasPlace_25 (by decide) ?_
        have hv := Option.some.inj hf
        exact W.zret (v := 0) hx hb hr (by decide) (fun t ht hW => k_endi hv hP hK hD hS ht hW) hS.2.2 dX0_hasPlace_26
      · have hf := (if_neg c5).symm.trans hf
        refine lv_iconst (v := 1) hx hb dX0_hasPlace_21 (by decide) ?_
        refine lv_goto (tgt := 26) hx hb dX0_hasPlace_22 (by decide) ?_
        have hv := Option.some.inj hf
        exact W.zret (v := 1) hx hb hr (by decide) (fun t ht hW => k_endi hv hP hK hD hS ht hW) hS.2.2 dX0_hasPlace_26
set_option maxHeartbeats 4000000 in
set_option maxRecDepth 100000 in
theorem okX0_at (l : Launch) {dC : Nat → ClassId} {dI : Nat → Nat → Nat} {o0 o1 o2 : Nat} {cA cB : ClassId} {sz : Nat} {x1 x2 : Int32} {zs0 ns0 : Nat → Int32} {ak0 hd0 br0 dp0 de0 hn0 : Int32} {sm0 : Int64} {r : Int32} (hf : fX0_at x1 x2 zs0 ns0 ak0 hd0 br0 dp0 de0 hn0 sm0 = some r) : kMi l yX0_at wsX0_at ({ frames := 0, cells := 0, slots := 0, locals := 0 }) (dC, dI) vwCl [(cA, .int), (cB, .int)] (w0 o0 o1 o2 cA cB zs0 ns0 ak0 hd0 br0 dp0 de0 hn0 sm0) (w0 o0 o1 o2 cA cB zs0 ns0 ak0 hd0 br0 dp0 de0 hn0 sm0) [.ref o0, .int x1, .int x2] sz r := by
  rw [fX0_at] at hf
  refine Met.ofW (cc := cX0_at) (maxL := 3) (ret := (some .int)) (by decide) rfl ?_
  intro p e s m args below meth c s₁ B hml hv
  obtain ⟨rfl, hsz, hP, hK, hD0⟩ := hv
  have hx := B.exec
  have hb := B.bytes
  have hr := B.returns
  have hts := atoms_spec (ws := wsX0_at) B.pre
  have hown : s.vm.findClass RX0 = some m.cls := findClass_of_methodNamed B.named
  have hlocks := B.notSynchronized
  subst hsz
  have hD := hD0.self (sz := s.heap.size)
  generalize hAe : va_A (w0 o0 o1 o2 cA cB zs0 ns0 ak0 hd0 br0 dp0 de0 hn0 sm0) s.heap.size = A at hD ⊢
  have hA : ∀ q : Nat, s.heap.size ≤ q → A q := fun q h => by rw [← hAe]; exact Or.inr h
  have hS : va_S A s.heap s.heap [] := va_S.rf
  have hin0 : ∀ w ∈ wsX00, w ∈ wsX0_at := fun w h => List.mem_cons_of_mem _ (List.mem_append_right _ h)
  have hfl13 := hts (.fieldLink RX0 13 "CountRoom" "numbers" "[I") (by decide +kernel)
  have hCF : CallFix p m c cX0_at 3 s _ wsX0_at RX0 := ⟨hx, hb, hml, hown, hts⟩
  have hl := lv_entry ([.ref o0, .int x1, .int x2]) (n := 3) (Nat.le_of_ble_eq_true rfl)
  rw [lg_entry_eq]
  generalize (lg_sl ([.ref o0, .int x1, .int x2]) ++ List.replicate (3 - (lg_sl ([.ref o0, .int x1, .int x2])).length) Slot.unset).toArray = ls at hl ⊢
  have hl : lv_has ls 3 [(0, .ref o0), (1, .int x1), (2, .int x2)] := hl
  refine lv_aload_n hx hb dX0_at_0 rfl (lv_at hl 0 rfl) ?_
  refine va_get (D := (dC, dI)) (ci := 0) (v := .ref o2) (C := RX0) (T := TX0) (N := 9) hx hb hts hin0 hown hK hP 0 rfl rfl 1 (by decide) hfl13 (fun _ h9 => h9) rfl dX0_at_1 ?_
  refine lv_iload_n hx hb dX0_at_4 rfl (lv_at hl 1 rfl) ?_
  refine lv_bipush (v := 8) hx hb dX0_at_5 (by decide) ?_
  refine lv_imul hx hb dX0_at_7 ?_
  refine lv_iload_n hx hb dX0_at_8 rfl (lv_at hl 2 rfl) ?_
  refine lv_iadd hx hb dX0_at_9 ?_
  obtain ⟨hi1, hf⟩ := og_no hf
  refine va_iald hx hb hK hP 2 1 rfl rfl hi1 dX0_at_10 ?_
  have hv := Option.some.inj hf
  exact W.iret (v := ns0 ((x1 * 8) + x2).toNatClampNeg) hx hb hr (fun t ht hW => k_endi hv hP hK hD hS ht hW) hS.2.2 dX0_at_11
set_option maxHeartbeats 4000000 in
set_option maxRecDepth 100000 in
theorem okX0_put (l : Launch) {dC : Nat → ClassId} {dI : Nat → Nat → Nat} {o0 o1 o2 : Nat} {cA cB : ClassId} {sz : Nat} {x1 x2 x3 : Int32} {zs0 ns0 : Nat → Int32} {ak0 hd0 br0 dp0 de0 hn0 : Int32} {sm0 : Int64} {st2 : S0} (hf : fX0_put x1 x2 x3 zs0 ns0 ak0 hd0 br0 dp0 de0 hn0 sm0 = some st2) : kMv l yX0_put wsX0_put ({ frames := 0, cells := 0, slots := 0, locals := 0 }) (dC, dI) vwCl [(cA, .int), (cB, .int)] (w0 o0 o1 o2 cA cB zs0 ns0 ak0 hd0 br0 dp0 de0 hn0 sm0) (w0t o0 o1 o2 cA cB st2) [.ref o0, .int x1, .int x2, .int x3] sz := by
  rw [fX0_put] at hf
  refine Met.ofW (cc := cX0_put) (maxL := 4) (ret := none) (by decide) rfl ?_
  intro p e s m args below meth c s₁ B hml hv
  obtain ⟨rfl, hsz, hP, hK, hD0⟩ := hv
  have hx := B.exec
  have hb := B.bytes
  have hr := B.returns
  have hts := atoms_spec (ws := wsX0_put) B.pre
  have hown : s.vm.findClass RX0 = some m.cls := findClass_of_methodNamed B.named
  have hlocks := B.notSynchronized
  subst hsz
  have hD := hD0.self (sz := s.heap.size)
  generalize hAe : va_A (w0 o0 o1 o2 cA cB zs0 ns0 ak0 hd0 br0 dp0 de0 hn0 sm0) s.heap.size = A at hD ⊢
  have hA : ∀ q : Nat, s.heap.size ≤ q → A q := fun q h => by rw [← hAe]; exact Or.inr h
  have hS : va_S A s.heap s.heap [] := va_S.rf
  have hin0 : ∀ w ∈ wsX00, w ∈ wsX0_put := fun w h => List.mem_cons_of_mem _ (List.mem_append_right _ h)
  have hfl13 := hts (.fieldLink RX0 13 "CountRoom" "numbers" "[I") (by decide +kernel)
  have hCF : CallFix p m c cX0_put 4 s _ wsX0_put RX0 := ⟨hx, hb, hml, hown, hts⟩
  have hl := lv_entry ([.ref o0, .int x1, .int x2, .int x3]) (n := 4) (Nat.le_of_ble_eq_true rfl)
  rw [lg_entry_eq]
  generalize (lg_sl ([.ref o0, .int x1, .int x2, .int x3]) ++ List.replicate (4 - (lg_sl ([.ref o0, .int x1, .int x2, .int x3])).length) Slot.unset).toArray = ls at hl ⊢
  have hl : lv_has ls 4 [(0, .ref o0), (1, .int x1), (2, .int x2), (3, .int x3)] := hl
  refine lv_aload_n hx hb dX0_put_0 rfl (lv_at hl 0 rfl) ?_
  refine va_get (D := (dC, dI)) (ci := 0) (v := .ref o2) (C := RX0) (T := TX0) (N := 9) hx hb hts hin0 hown hK hP 0 rfl rfl 1 (by decide) hfl13 (fun _ h9 => h9) rfl dX0_put_1 ?_
  refine lv_iload_n hx hb dX0_put_4 rfl (lv_at hl 1 rfl) ?_
  refine lv_bipush (v := 8) hx hb dX0_put_5 (by decide) ?_
  refine lv_imul hx hb dX0_put_7 ?_
  refine lv_iload_n hx hb dX0_put_8 rfl (lv_at hl 2 rfl) ?_
  refine lv_iadd hx hb dX0_put_9 ?_
  refine lv_iload_n hx hb dX0_put_10 rfl (lv_at hl 3 rfl) ?_
  obtain ⟨hi1, hf⟩ := og_no hf
  refine va_iast hx hb hK hP hD hS 2 1 rfl rfl hi1 dX0_put_11 (fun H locs hP hD hS => ?_)
  have hP : va_P (dC, dI) vwCl (w0 o0 o1 o2 cA cB zs0 (upd ns0 ((x1 * 8) + x2).toNatClampNeg x3) ak0 hd0 br0 dp0 de0 hn0 sm0) H := hP
  have hD : va_D A (w0 o0 o1 o2 cA cB zs0 (upd ns0 ((x1 * 8) + x2).toNatClampNeg x3) ak0 hd0 br0 dp0 de0 hn0 sm0) := hD
  have hu := Option.some.inj hf
  subst hu
  exact W.vret hx hb hr (fun t ht hW => k_endv hP hK hD hS ht hW) hS.2.2 dX0_put_12
set_option maxHeartbeats 4000000 in
set_option maxRecDepth 100000 in
theorem okX0_letGo (l : Launch) {dC : Nat → ClassId} {dI : Nat → Nat → Nat} {o0 o1 o2 : Nat} {cA cB : ClassId} {sz : Nat} {zs0 ns0 : Nat → Int32} {ak0 hd0 br0 dp0 de0 hn0 : Int32} {sm0 : Int64} {st2 : S0} (hf : fX0_letGo zs0 ns0 ak0 hd0 br0 dp0 de0 hn0 sm0 = some st2) : kMv l yX0_letGo wsX0_letGo ({ frames := 0, cells := 0, slots := 0, locals := 0 }) (dC, dI) vwCl [(cA, .int), (cB, .int)] (w0 o0 o1 o2 cA cB zs0 ns0 ak0 hd0 br0 dp0 de0 hn0 sm0) (w0t o0 o1 o2 cA cB st2) [.ref o0] sz := by
  rw [fX0_letGo] at hf
  refine Met.ofW (cc := cX0_letGo) (maxL := 1) (ret := none) (by decide) rfl ?_
  intro p e s m args below meth c s₁ B hml hv
  obtain ⟨rfl, hsz, hP, hK, hD0⟩ := hv
  have hx := B.exec
  have hb := B.bytes
  have hr := B.returns
  have hts := atoms_spec (ws := wsX0_letGo) B.pre
  have hown : s.vm.findClass RX0 = some m.cls := findClass_of_methodNamed B.named
  have hlocks := B.notSynchronized
  subst hsz
  have hD := hD0.self (sz := s.heap.size)
  generalize hAe : va_A (w0 o0 o1 o2 cA cB zs0 ns0 ak0 hd0 br0 dp0 de0 hn0 sm0) s.heap.size = A at hD ⊢
  have hA : ∀ q : Nat, s.heap.size ≤ q → A q := fun q h => by rw [← hAe]; exact Or.inr h
  have hS : va_S A s.heap s.heap [] := va_S.rf
  have hin0 : ∀ w ∈ wsX00, w ∈ wsX0_letGo := fun w h => List.mem_cons_of_mem _ (List.mem_append_right _ h)
  have hfl87 := hts (.fieldLink RX0 87 "CountRoom" "depth" "I") (by decide +kernel)
  have hCF : CallFix p m c cX0_letGo 1 s _ wsX0_letGo RX0 := ⟨hx, hb, hml, hown, hts⟩
  have hl := lv_entry ([.ref o0]) (n := 1) (Nat.le_of_ble_eq_true rfl)
  rw [lg_entry_eq]
  generalize (lg_sl ([.ref o0]) ++ List.replicate (1 - (lg_sl ([.ref o0])).length) Slot.unset).toArray = ls at hl ⊢
  have hl : lv_has ls 1 [(0, .ref o0)] := hl
  refine lv_aload_n hx hb dX0_letGo_0 rfl (lv_at hl 0 rfl) ?_
  refine lv_dup hx hb dX0_letGo_1 rfl ?_
  refine va_get (D := (dC, dI)) (ci := 0) (v := .int dp0) (C := RX0) (T := TX0) (N := 9) hx hb hts hin0 hown hK hP 0 rfl rfl 5 (by decide) hfl87 (fun _ h9 => h9) rfl dX0_letGo_2 ?_
  refine lv_iconst (v := 1) hx hb dX0_letGo_5 (by decide) ?_
  refine lv_isub hx hb dX0_letGo_6 ?_
  refine va_put (D := (dC, dI)) (ci := 0) (v := .int (dp0 - 1)) (ty := .int) (C := RX0) (T := TX0) (N := 9) hx hb hts hin0 tyX0 tyX0_ok nmX0 hown hK hP hD hS 0 rfl rfl 5 (by decide) hfl87 (fun _ h9 => h9) rfl (by decide +kernel) rfl rfl (Nat.le_of_ble_eq_true rfl) dX0_letGo_7 (fun H locs hP hD hS => ?_)
  have hP : va_P (dC, dI) vwCl (w0 o0 o1 o2 cA cB zs0 ns0 ak0 hd0 br0 (dp0 - 1) de0 hn0 sm0) H := hP
  have hD : va_D A (w0 o0 o1 o2 cA cB zs0 ns0 ak0 hd0 br0 (dp0 - 1) de0 hn0 sm0) := hD
  have hu := Option.some.inj hf
  subst hu
  exact W.vret hx hb hr (fun t ht hW => k_endv hP hK hD hS ht hW) hS.2.2 dX0_letGo_10
set_option maxHeartbeats 4000000 in
set_option maxRecDepth 100000 in
theorem okX0_release (l : Launch) {dC : Nat → ClassId} {dI : Nat → Nat → Nat} {o0 o1 o2 : Nat} {cA cB : ClassId} {sz : Nat} {x1 : Int32} {zs0 ns0 : Nat → Int32} {ak0 hd0 br0 dp0 de0 hn0 : Int32} {sm0 : Int64} {r : Int32} {st2 : S0} (hf : fX0_release x1 zs0 ns0 ak0 hd0 br0 dp0 de0 hn0 sm0 = some (r, st2)) : kMi l yX0_release wsX0_release ({ frames := 1, cells := 0, slots := 0, locals := 20 }) (dC, dI) vwCl [(cA, .int), (cB, .int)] (w0 o0 o1 o2 cA cB zs0 ns0 ak0 hd0 br0 dp0 de0 hn0 sm0) (w0t o0 o1 o2 cA cB st2) [.ref o0, .int x1] sz r := by
  rw [fX0_release] at hf
  refine Met.ofW (cc := cX0_release) (maxL := 2) (ret := (some .int)) (by decide) rfl ?_
  intro p e s m args below meth c s₁ B hml hv
  obtain ⟨rfl, hsz, hP, hK, hD0⟩ := hv
  have hx := B.exec
  have hb := B.bytes
  have hr := B.returns
  have hts := atoms_spec (ws := wsX0_release) B.pre
  have hown : s.vm.findClass RX0 = some m.cls := findClass_of_methodNamed B.named
  have hlocks := B.notSynchronized
  subst hsz
  have hD := hD0.self (sz := s.heap.size)
  generalize hAe : va_A (w0 o0 o1 o2 cA cB zs0 ns0 ak0 hd0 br0 dp0 de0 hn0 sm0) s.heap.size = A at hD ⊢
  have hA : ∀ q : Nat, s.heap.size ≤ q → A q := fun q h => by rw [← hAe]; exact Or.inr h
  have hS : va_S A s.heap s.heap [] := va_S.rf
  have hin0 : ∀ w ∈ wsX00, w ∈ wsX0_release := fun w h => List.mem_cons_of_mem _ (List.mem_append_right _ h)
  have hfl84 := hts (.fieldLink RX0 84 "CountRoom" "broken" "I") (by decide +kernel)
  have hCF : CallFix p m c cX0_release 2 s _ wsX0_release RX0 := ⟨hx, hb, hml, hown, hts⟩
  have hl := lv_entry ([.ref o0, .int x1]) (n := 2) (Nat.le_of_ble_eq_true rfl)
  rw [lg_entry_eq]
  generalize (lg_sl ([.ref o0, .int x1]) ++ List.replicate (2 - (lg_sl ([.ref o0, .int x1])).length) Slot.unset).toArray = ls at hl ⊢
  have hl : lv_has ls 2 [(0, .ref o0), (1, .int x1)] := hl
  refine lv_aload_n hx hb dX0_release_0 rfl (lv_at hl 0 rfl) ?_
  obtain ⟨⟨zs1, ns1, ak1, hd1, br1, dp1, de1, hn1, sm1⟩, hq1, hf⟩ := ob_some hf
  try dsimp only at hf
  refine kc_v (wr := []) (As := []) (rest := []) [0, 1, 2] [] [0, 1] 0 0 hCF (okX0_letGo l hq1) (cwV 0 hts gX0_release_X0_letGo rfl rfl rfl ydX0_letGo ⟨Nat.le_of_ble_eq_true rfl, Nat.le_of_ble_eq_true rfl⟩) hK hP hD hS hA rfl rfl rfl rfl rfl (fun _ h => by cases h) rfl rfl rfl rfl hl.1 rfl (Nat.le_of_ble_eq_true rfl) dX0_release_1 ⟨Nat.zero_le _, Nat.zero_le _⟩ (fun H locs hP hD hS => ?_)
  have hP : va_P (dC, dI) vwCl (w0 o0 o1 o2 cA cB zs1 ns1 ak1 hd1 br1 dp1 de1 hn1 sm1) H := hP
  have hD : va_D A (w0 o0 o1 o2 cA cB zs1 ns1 ak1 hd1 br1 dp1 de1 hn1 sm1) := hD
  refine lv_iload_n hx hb dX0_release_4 rfl (lv_at hl 1 rfl) ?_
  obtain ⟨r2, hq2, hf⟩ := ob_some hf
  try dsimp only at hf
  refine ks_i (wr := w0 o0 o1 o2 cA cB zs1 ns1 ak1 hd1 br1 dp1 de1 hn1 sm1) (As := [.int x1]) (rest := []) [0, 1, 2] hCF (okX0_isFailure l hq2) (va_cwS 1 hts gX0_release_X0_isFailure rfl rfl rfl ydX0_isFailure ⟨Nat.le_of_ble_eq_true rfl, Nat.le_of_ble_eq_true rfl⟩) hK hP hD hS hA rfl rfl rfl hl.1 rfl (Nat.le_of_ble_eq_true rfl) dX0_release_5 ⟨Nat.zero_le _, Nat.zero_le _⟩ (fun H locs hP hD hS => ?_)
  have hP : va_P (dC, dI) vwCl (w0 o0 o1 o2 cA cB zs1 ns1 ak1 hd1 br1 dp1 de1 hn1 sm1) H := hP
  have hD : va_D A (w0 o0 o1 o2 cA cB zs1 ns1 ak1 hd1 br1 dp1 de1 hn1 sm1) := hD
  refine lv_if_eq (tgt := 21) hx hb dX0_release_8 (by decide) (fun c3 => ?_) (fun c3 => ?_)
  · have hf := (if_pos c3).symm.trans hf
    refine lv_iload_n hx hb dX0_release_21 rfl (lv_at hl 1 rfl) ?_
    obtain ⟨hv, hu⟩ := os_pair hf
    subst hu
    exact W.iret (v := x1) hx hb hr (fun t ht hW => k_endi hv hP hK hD hS ht hW) hS.2.2 dX0_release_22
  · have hf := (if_neg c3).symm.trans hf
    refine lv_aload_n hx hb dX0_release_11 rfl (lv_at hl 0 rfl) ?_
    refine lv_dup hx hb dX0_release_12 rfl ?_
    refine va_get (D := (dC, dI)) (ci := 0) (v := .int br1) (C := RX0) (T := TX0) (N := 9) hx hb hts hin0 hown hK hP 0 rfl rfl 4 (by decide) hfl84 (fun _ h9 => h9) rfl dX0_release_13 ?_
    refine lv_iconst (v := 1) hx hb dX0_release_16 (by decide) ?_
    refine lv_iadd hx hb dX0_release_17 ?_
    refine va_put (D := (dC, dI)) (ci := 0) (v := .int (br1 + 1)) (ty := .int) (C := RX0) (T := TX0) (N := 9) hx hb hts hin0 tyX0 tyX0_ok nmX0 hown hK hP hD hS 0 rfl rfl 4 (by decide) hfl84 (fun _ h9 => h9) rfl (by decide +kernel) rfl rfl (Nat.le_of_ble_eq_true rfl) dX0_release_18 (fun H locs hP hD hS => ?_)
    have hP : va_P (dC, dI) vwCl (w0 o0 o1 o2 cA cB zs1 ns1 ak1 hd1 (br1 + 1) dp1 de1 hn1 sm1) H := hP
    have hD : va_D A (w0 o0 o1 o2 cA cB zs1 ns1 ak1 hd1 (br1 + 1) dp1 de1 hn1 sm1) := hD
    refine lv_iload_n hx hb dX0_release_21 rfl (lv_at hl 1 rfl) ?_
    obtain ⟨hv, hu⟩ := os_pair hf
    subst hu
    exact W.iret (v := x1) hx hb hr (fun t ht hW => k_endi hv hP hK hD hS ht hW) hS.2.2 dX0_release_22
set_option maxHeartbeats 4000000 in
set_option maxRecDepth 100000 in
theorem okX0_hold (l : Launch) {dC : Nat → ClassId} {dI : Nat → Nat → Nat} {o0 o1 o2 : Nat} {cA cB : ClassId} {sz : Nat} {x1 : Int32} {zs0 ns0 : Nat → Int32} {ak0 hd0 br0 dp0 de0 hn0 : Int32} {sm0 : Int64} {r : Int32} {st2 : S0} (hf : fX0_hold x1 zs0 ns0 ak0 hd0 br0 dp0 de0 hn0 sm0 = some (r, st2)) : kMi l yX0_hold wsX0_hold ({ frames := 2, cells := 0, slots := 0, locals := 41 }) (dC, dI) vwCl [(cA, .int), (cB, .int)] (w0 o0 o1 o2 cA cB zs0 ns0 ak0 hd0 br0 dp0 de0 hn0 sm0) (w0t o0 o1 o2 cA cB st2) [.ref o0, .int x1] sz r := by
  rw [fX0_hold] at hf
  refine Met.ofW (cc := cX0_hold) (maxL := 2) (ret := (some .boolean)) (by decide) rfl ?_
  intro p e s m args below meth c s₁ B hml hv
  obtain ⟨rfl, hsz, hP, hK, hD0⟩ := hv
  have hx := B.exec
  have hb := B.bytes
  have hr := B.returns
  have hts := atoms_spec (ws := wsX0_hold) B.pre
  have hown : s.vm.findClass RX0 = some m.cls := findClass_of_methodNamed B.named
  have hlocks := B.notSynchronized
  subst hsz
  have hD := hD0.self (sz := s.heap.size)
  generalize hAe : va_A (w0 o0 o1 o2 cA cB zs0 ns0 ak0 hd0 br0 dp0 de0 hn0 sm0) s.heap.size = A at hD ⊢
  have hA : ∀ q : Nat, s.heap.size ≤ q → A q := fun q h => by rw [← hAe]; exact Or.inr h
  have hS : va_S A s.heap s.heap [] := va_S.rf
  have hin0 : ∀ w ∈ wsX00, w ∈ wsX0_hold := fun w h => List.mem_cons_of_mem _ (List.mem_append_right _ h)
  have hfl78 := hts (.fieldLink RX0 78 "CountRoom" "asked" "I") (by decide +kernel)
  have hfl81 := hts (.fieldLink RX0 81 "CountRoom" "held" "I") (by decide +kernel)
  have hfl87 := hts (.fieldLink RX0 87 "CountRoom" "depth" "I") (by decide +kernel)
  have hfl90 := hts (.fieldLink RX0 90 "CountRoom" "deepest" "I") (by decide +kernel)
  have hCF : CallFix p m c cX0_hold 2 s _ wsX0_hold RX0 := ⟨hx, hb, hml, hown, hts⟩
  have hl := lv_entry ([.ref o0, .int x1]) (n := 2) (Nat.le_of_ble_eq_true rfl)
  rw [lg_entry_eq]
  generalize (lg_sl ([.ref o0, .int x1]) ++ List.replicate (2 - (lg_sl ([.ref o0, .int x1])).length) Slot.unset).toArray = ls at hl ⊢
  have hl : lv_has ls 2 [(0, .ref o0), (1, .int x1)] := hl
  refine lv_aload_n hx hb dX0_hold_0 rfl (lv_at hl 0 rfl) ?_
  refine lv_dup hx hb dX0_hold_1 rfl ?_
  refine va_get (D := (dC, dI)) (ci := 0) (v := .int ak0) (C := RX0) (T := TX0) (N := 9) hx hb hts hin0 hown hK hP 0 rfl rfl 2 (by decide) hfl78 (fun _ h9 => h9) rfl dX0_hold_2 ?_
  refine lv_iconst (v := 1) hx hb dX0_hold_5 (by decide) ?_
  refine lv_iadd hx hb dX0_hold_6 ?_
  refine va_put (D := (dC, dI)) (ci := 0) (v := .int (ak0 + 1)) (ty := .int) (C := RX0) (T := TX0) (N := 9) hx hb hts hin0 tyX0 tyX0_ok nmX0 hown hK hP hD hS 0 rfl rfl 2 (by decide) hfl78 (fun _ h9 => h9) rfl (by decide +kernel) rfl rfl (Nat.le_of_ble_eq_true rfl) dX0_hold_7 (fun H locs hP hD hS => ?_)
  have hP : va_P (dC, dI) vwCl (w0 o0 o1 o2 cA cB zs0 ns0 (ak0 + 1) hd0 br0 dp0 de0 hn0 sm0) H := hP
  have hD : va_D A (w0 o0 o1 o2 cA cB zs0 ns0 (ak0 + 1) hd0 br0 dp0 de0 hn0 sm0) := hD
  refine lv_aload_n hx hb dX0_hold_10 rfl (lv_at hl 0 rfl) ?_
  refine lv_iload_n hx hb dX0_hold_11 rfl (lv_at hl 1 rfl) ?_
  obtain ⟨r1, hq1, hf⟩ := ob_some hf
  try dsimp only at hf
  refine kc_i (wr := []) (As := [.int x1]) (rest := []) [0, 1, 2] [] [0, 1] 0 0 hCF (okX0_isThere l hq1) (cwV 1 hts gX0_hold_X0_isThere rfl rfl rfl ydX0_isThere ⟨Nat.le_of_ble_eq_true rfl, Nat.le_of_ble_eq_true rfl⟩) hK hP hD hS hA rfl rfl rfl rfl rfl (fun _ h => by cases h) rfl rfl rfl rfl hl.1 rfl (Nat.le_of_ble_eq_true rfl) dX0_hold_12 ⟨Nat.zero_le _, Nat.zero_le _⟩ (fun H locs hP hD hS => ?_)
  have hP : va_P (dC, dI) vwCl (w0 o0 o1 o2 cA cB zs0 ns0 (ak0 + 1) hd0 br0 dp0 de0 hn0 sm0) H := hP
  have hD : va_D A (w0 o0 o1 o2 cA cB zs0 ns0 (ak0 + 1) hd0 br0 dp0 de0 hn0 sm0) := hD
  refine lv_if_ne (tgt := 20) hx hb dX0_hold_15 (by decide) (fun c2 => ?_) (fun c2 => ?_)
  · have hf := (if_neg c2).symm.trans hf
    refine lv_aload_n hx hb dX0_hold_20 rfl (lv_at hl 0 rfl) ?_
    refine lv_dup hx hb dX0_hold_21 rfl ?_
    refine va_get (D := (dC, dI)) (ci := 0) (v := .int hd0) (C := RX0) (T := TX0) (N := 9) hx hb hts hin0 hown hK hP 0 rfl rfl 3 (by decide) hfl81 (fun _ h9 => h9) rfl dX0_hold_22 ?_
    refine lv_iconst (v := 1) hx hb dX0_hold_25 (by decide) ?_
    refine lv_iadd hx hb dX0_hold_26 ?_
    refine va_put (D := (dC, dI)) (ci := 0) (v := .int (hd0 + 1)) (ty := .int) (C := RX0) (T := TX0) (N := 9) hx hb hts hin0 tyX0 tyX0_ok nmX0 hown hK hP hD hS 0 rfl rfl 3 (by decide) hfl81 (fun _ h9 => h9) rfl (by decide +kernel) rfl rfl (Nat.le_of_ble_eq_true rfl) dX0_hold_27 (fun H locs hP hD hS => ?_)
    have hP : va_P (dC, dI) vwCl (w0 o0 o1 o2 cA cB zs0 ns0 (ak0 + 1) (hd0 + 1) br0 dp0 de0 hn0 sm0) H := hP
    have hD : va_D A (w0 o0 o1 o2 cA cB zs0 ns0 (ak0 + 1) (hd0 + 1) br0 dp0 de0 hn0 sm0) := hD
    refine lv_aload_n hx hb dX0_hold_30 rfl (lv_at hl 0 rfl) ?_
    refine lv_dup hx hb dX0_hold_31 rfl ?_
    refine va_get (D := (dC, dI)) (ci := 0) (v := .int dp0) (C := RX0) (T := TX0) (N := 9) hx hb hts hin0 hown hK hP 0 rfl rfl 5 (by decide) hfl87 (fun _ h9 => h9) rfl dX0_hold_32 ?_
    refine lv_iconst (v := 1) hx hb dX0_hold_35 (by decide) ?_
    refine lv_iadd hx hb dX0_hold_36 ?_
    refine va_put (D := (dC, dI)) (ci := 0) (v := .int (dp0 + 1)) (ty := .int) (C := RX0) (T := TX0) (N := 9) hx hb hts hin0 tyX0 tyX0_ok nmX0 hown hK hP hD hS 0 rfl rfl 5 (by decide) hfl87 (fun _ h9 => h9) rfl (by decide +kernel) rfl rfl (Nat.le_of_ble_eq_true rfl) dX0_hold_37 (fun H locs hP hD hS => ?_)
    have hP : va_P (dC, dI) vwCl (w0 o0 o1 o2 cA cB zs0 ns0 (ak0 + 1) (hd0 + 1) br0 (dp0 + 1) de0 hn0 sm0) H := hP
    have hD : va_D A (w0 o0 o1 o2 cA cB zs0 ns0 (ak0 + 1) (hd0 + 1) br0 (dp0 + 1) de0 hn0 sm0) := hD
    refine lv_aload_n hx hb dX0_hold_40 rfl (lv_at hl 0 rfl) ?_
    refine lv_aload_n hx hb dX0_hold_41 rfl (lv_at hl 0 rfl) ?_
    refine va_get (D := (dC, dI)) (ci := 0) (v := .int de0) (C := RX0) (T := TX0) (N := 9) hx hb hts hin0 hown hK hP 0 rfl rfl 6 (by decide) hfl90 (fun _ h9 => h9) rfl dX0_hold_42 ?_
    refine lv_aload_n hx hb dX0_hold_45 rfl (lv_at hl 0 rfl) ?_
    refine va_get (D := (dC, dI)) (ci := 0) (v := .int (dp0 + 1)) (C := RX0) (T := TX0) (N := 9) hx hb hts hin0 hown hK hP 0 rfl rfl 5 (by decide) hfl87 (fun _ h9 => h9) rfl dX0_hold_46 ?_
    refine va_mmax hx hb (hml.trans hl.1.symm) hown (hts (.methodLink RX0 118 Lib.Math.max.name) (by decide +kernel)) (hts (.static Lib.Math.max.name) (by decide +kernel)) (hts (.initialized "java/lang/Math") (by decide +kernel)) (hts (.code Lib.Math.max.name Lib.Math.max.code 2 (some .int)) (by decide +kernel)) (Nat.le_of_ble_eq_true rfl) (Nat.le_of_ble_eq_true rfl) (Nat.zero_le _) (Nat.zero_le _) dX0_hold_49 ?_
    refine va_put (D := (dC, dI)) (ci := 0) (v := .int (if de0 < (dp0 + 1) then (dp0 + 1) else de0)) (ty := .int) (C := RX0) (T := TX0) (N := 9) hx hb hts hin0 tyX0 tyX0_ok nmX0 hown hK hP hD hS 0 rfl rfl 6 (by decide) hfl90 (fun _ h9 => h9) rfl (by decide +kernel) rfl rfl (Nat.le_of_ble_eq_true rfl) dX0_hold_52 (fun H locs hP hD hS => ?_)
    have hP : va_P (dC, dI) vwCl (w0 o0 o1 o2 cA cB zs0 ns0 (ak0 + 1) (hd0 + 1) br0 (dp0 + 1) (if de0 < (dp0 + 1) then (dp0 + 1) else de0) hn0 sm0) H := hP
    have hD : va_D A (w0 o0 o1 o2 cA cB zs0 ns0 (ak0 + 1) (hd0 + 1) br0 (dp0 + 1) (if de0 < (dp0 + 1) then (dp0 + 1) else de0) hn0 sm0) := hD
    refine lv_iconst (v := 1) hx hb dX0_hold_55 (by decide) ?_
    obtain ⟨hv, hu⟩ := os_pair hf
    subst hu
    exact W.zret (v := 1) hx hb hr (by decide) (fun t ht hW => k_endi hv hP hK hD hS ht hW) hS.2.2 dX0_hold_56
  · have hf := (if_pos c2).symm.trans hf
    refine lv_iconst (v := 0) hx hb dX0_hold_18 (by decide) ?_
    obtain ⟨hv, hu⟩ := os_pair hf
    subst hu
    exact W.zret (v := 0) hx hb hr (by decide) (fun t ht hW => k_endi hv hP hK hD hS ht hW) hS.2.2 dX0_hold_19
set_option maxHeartbeats 4000000 in
set_option maxRecDepth 100000 in
theorem okX0_moveHand (l : Launch) {dC : Nat → ClassId} {dI : Nat → Nat → Nat} {o0 o1 o2 : Nat} {cA cB : ClassId} {sz : Nat} {zs0 ns0 : Nat → Int32} {ak0 hd0 br0 dp0 de0 hn0 : Int32} {sm0 : Int64} {st2 : S0} (hf : fX0_moveHand zs0 ns0 ak0 hd0 br0 dp0 de0 hn0 sm0 = some st2) : kMv l yX0_moveHand wsX0_moveHand ({ frames := 0, cells := 0, slots := 0, locals := 0 }) (dC, dI) vwCl [(cA, .int), (cB, .int)] (w0 o0 o1 o2 cA cB zs0 ns0 ak0 hd0 br0 dp0 de0 hn0 sm0) (w0t o0 o1 o2 cA cB st2) [.ref o0] sz := by
  rw [fX0_moveHand] at hf
  refine Met.ofW (cc := cX0_moveHand) (maxL := 1) (ret := none) (by decide) rfl ?_
  intro p e s m args below meth c s₁ B hml hv
  obtain ⟨rfl, hsz, hP, hK, hD0⟩ := hv
  have hx := B.exec
  have hb := B.bytes
  have hr := B.returns
  have hts := atoms_spec (ws := wsX0_moveHand) B.pre
  have hown : s.vm.findClass RX0 = some m.cls := findClass_of_methodNamed B.named
  have hlocks := B.notSynchronized
  subst hsz
  have hD := hD0.self (sz := s.heap.size)
  generalize hAe : va_A (w0 o0 o1 o2 cA cB zs0 ns0 ak0 hd0 br0 dp0 de0 hn0 sm0) s.heap.size = A at hD ⊢
  have hA : ∀ q : Nat, s.heap.size ≤ q → A q := fun q h => by rw [← hAe]; exact Or.inr h
  have hS : va_S A s.heap s.heap [] := va_S.rf
  have hin0 : ∀ w ∈ wsX00, w ∈ wsX0_moveHand := fun w h => List.mem_cons_of_mem _ (List.mem_append_right _ h)
  have hfl54 := hts (.fieldLink RX0 54 "CountRoom" "hand" "I") (by decide +kernel)
  have hCF : CallFix p m c cX0_moveHand 1 s _ wsX0_moveHand RX0 := ⟨hx, hb, hml, hown, hts⟩
  have hl := lv_entry ([.ref o0]) (n := 1) (Nat.le_of_ble_eq_true rfl)
  rw [lg_entry_eq]
  generalize (lg_sl ([.ref o0]) ++ List.replicate (1 - (lg_sl ([.ref o0])).length) Slot.unset).toArray = ls at hl ⊢
  have hl : lv_has ls 1 [(0, .ref o0)] := hl
  refine lv_aload_n hx hb dX0_moveHand_0 rfl (lv_at hl 0 rfl) ?_
  refine lv_aload_n hx hb dX0_moveHand_1 rfl (lv_at hl 0 rfl) ?_
  refine va_get (D := (dC, dI)) (ci := 0) (v := .int hn0) (C := RX0) (T := TX0) (N := 9) hx hb hts hin0 hown hK hP 0 rfl rfl 7 (by decide) hfl54 (fun _ h9 => h9) rfl dX0_moveHand_2 ?_
  refine lv_iconst (v := 1) hx hb dX0_moveHand_5 (by decide) ?_
  refine lv_iadd hx hb dX0_moveHand_6 ?_
  refine lv_bipush (v := 8) hx hb dX0_moveHand_7 (by decide) ?_
  refine lv_icmp_ge (tgt := 21) hx hb dX0_moveHand_9 (by decide) (fun c1 => ?_) (fun c1 => ?_)
  · have hf := (if_pos c1).symm.trans hf
    refine lv_iconst (v := 0) hx hb dX0_moveHand_21 (by decide) ?_
    refine va_put (D := (dC, dI)) (ci := 0) (v := .int 0) (ty := .int) (C := RX0) (T := TX0) (N := 9) hx hb hts hin0 tyX0 tyX0_ok nmX0 hown hK hP hD hS 0 rfl rfl 7 (by decide) hfl54 (fun _ h9 => h9) rfl (by decide +kernel) rfl rfl (Nat.le_of_ble_eq_true rfl) dX0_moveHand_22 (fun H locs hP hD hS => ?_)
    have hP : va_P (dC, dI) vwCl (w0 o0 o1 o2 cA cB zs0 ns0 ak0 hd0 br0 dp0 de0 0 sm0) H := hP
    have hD : va_D A (w0 o0 o1 o2 cA cB zs0 ns0 ak0 hd0 br0 dp0 de0 0 sm0) := hD
    have hu := Option.some.inj hf
    subst hu
    exact W.vret hx hb hr (fun t ht hW => k_endv hP hK hD hS ht hW) hS.2.2 dX0_moveHand_25
  · have hf := (if_neg c1).symm.trans hf
    refine lv_aload_n hx hb dX0_moveHand_12 rfl (lv_at hl 0 rfl) ?_
    refine va_get (D := (dC, dI)) (ci := 0) (v := .int hn0) (C := RX0) (T := TX0) (N := 9) hx hb hts hin0 hown hK hP 0 rfl rfl 7 (by decide) hfl54 (fun _ h9 => h9) rfl dX0_moveHand_13 ?_
    refine lv_iconst (v := 1) hx hb dX0_moveHand_16 (by decide) ?_
    refine lv_iadd hx hb dX0_moveHand_17 ?_
    refine lv_goto (tgt := 22) hx hb dX0_moveHand_18 (by decide) ?_
    refine va_put (D := (dC, dI)) (ci := 0) (v := .int (hn0 + 1)) (ty := .int) (C := RX0) (T := TX0) (N := 9) hx hb hts hin0 tyX0 tyX0_ok nmX0 hown hK hP hD hS 0 rfl rfl 7 (by decide) hfl54 (fun _ h9 => h9) rfl (by decide +kernel) rfl rfl (Nat.le_of_ble_eq_true rfl) dX0_moveHand_22 (fun H locs hP hD hS => ?_)
    have hP : va_P (dC, dI) vwCl (w0 o0 o1 o2 cA cB zs0 ns0 ak0 hd0 br0 dp0 de0 (hn0 + 1) sm0) H := hP
    have hD : va_D A (w0 o0 o1 o2 cA cB zs0 ns0 ak0 hd0 br0 dp0 de0 (hn0 + 1) sm0) := hD
    have hu := Option.some.inj hf
    subst hu
    exact W.vret hx hb hr (fun t ht hW => k_endv hP hK hD hS ht hW) hS.2.2 dX0_moveHand_25
set_option maxHeartbeats 4000000 in
set_option maxRecDepth 100000 in
theorem okX0_countThere (l : Launch) {dC : Nat → ClassId} {dI : Nat → Nat → Nat} {o0 o1 o2 : Nat} {cA cB : ClassId} {sz : Nat} {zs0 ns0 : Nat → Int32} {ak0 hd0 br0 dp0 de0 hn0 : Int32} {sm0 : Int64} {r : Int32} (hf : fX0_countThere zs0 ns0 ak0 hd0 br0 dp0 de0 hn0 sm0 = some r) : kMi l yX0_countThere wsX0_countThere ({ frames := 2, cells := 0, slots := 0, locals := 41 }) (dC, dI) vwCl [(cA, .int), (cB, .int)] (w0 o0 o1 o2 cA cB zs0 ns0 ak0 hd0 br0 dp0 de0 hn0 sm0) (w0 o0 o1 o2 cA cB zs0 ns0 ak0 hd0 br0 dp0 de0 hn0 sm0) [.ref o0] sz r := by
  rw [fX0_countThere] at hf
  refine Met.ofW (cc := cX0_countThere) (maxL := 3) (ret := (some .int)) (by decide) rfl ?_
  intro p e s m args below meth c s₁ B hml hv
  obtain ⟨rfl, hsz, hP, hK, hD0⟩ := hv
  have hx := B.exec
  have hb := B.bytes
  have hr := B.returns
  have hts := atoms_spec (ws := wsX0_countThere) B.pre
  have hown : s.vm.findClass RX0 = some m.cls := findClass_of_methodNamed B.named
  have hlocks := B.notSynchronized
  subst hsz
  have hD := hD0.self (sz := s.heap.size)
  generalize hAe : va_A (w0 o0 o1 o2 cA cB zs0 ns0 ak0 hd0 br0 dp0 de0 hn0 sm0) s.heap.size = A at hD ⊢
  have hA : ∀ q : Nat, s.heap.size ≤ q → A q := fun q h => by rw [← hAe]; exact Or.inr h
  have hS : va_S A s.heap s.heap [] := va_S.rf
  have hin0 : ∀ w ∈ wsX00, w ∈ wsX0_countThere := fun w h => List.mem_cons_of_mem _ (List.mem_append_right _ h)
  have hCF : CallFix p m c cX0_countThere 3 s _ wsX0_countThere RX0 := ⟨hx, hb, hml, hown, hts⟩
  have loop4 : ∀ (k : Nat) (y1 y2 : Int32) (H : Heap) (locs : List Loc) (ls : Array Slot), fX0_countThere_4 k y1 y2 zs0 ns0 ak0 hd0 br0 dp0 de0 hn0 sm0 = some r → va_P (dC, dI) vwCl (w0 o0 o1 o2 cA cB zs0 ns0 ak0 hd0 br0 dp0 de0 hn0 sm0) H → va_D A (w0 o0 o1 o2 cA cB zs0 ns0 ak0 hd0 br0 dp0 de0 hn0 sm0) → va_S A s.heap H locs → lv_has ls 3 [(0, .ref o0), (1, .int y1), (2, .int y2)] → W p l e (headSpec wsX0_countThere ({ frames := 2, cells := 0, slots := 0, locals := 41 })).room s m ([.ref o0] : List Value).toArray below meth c H locs 0 0 (MQ below (va_Qi (fun (r2 : Int32) (_ : Unit) => r2 = r) (k_out (dC, dI) vwCl [(cA, .int), (cB, .int)] A (w0 o0 o1 o2 cA cB zs0 ns0 ak0 hd0 br0 dp0 de0 hn0 sm0)) A) ([.ref o0] : List Value).toArray s 0 0 A) (F0 m 4 ls []) := by
    intro k
    induction k with
    | zero => intro y1 y2  H locs ls hf; cases hf
    | succ k ih =>
      intro y1 y2  H locs ls hf hP hD hS hl
      rw [fX0_countThere_4] at hf
      refine lv_iload_n hx hb dX0_countThere_4 rfl (lv_at hl 2 rfl) ?_
      refine lv_bipush (v := 8) hx hb dX0_countThere_5 (by decide) ?_
      refine lv_icmp_ge (tgt := 27) hx hb dX0_countThere_7 (by decide) (fun c1 => ?_) (fun c1 => ?_)
      · have hf := (if_pos c1).symm.trans hf
        refine lv_iload_n hx hb dX0_countThere_27 rfl (lv_at hl 1 rfl) ?_
        have hv := Option.some.inj hf
        exact W.iret (v := y1) hx hb hr (fun t ht hW => k_endi hv hP hK hD hS ht hW) hS.2.2 dX0_countThere_28
      · have hf := (if_neg c1).symm.trans hf
        refine lv_aload_n hx hb dX0_countThere_10 rfl (lv_at hl 0 rfl) ?_
        refine lv_iload_n hx hb dX0_countThere_11 rfl (lv_at hl 2 rfl) ?_
        obtain ⟨r2, hq2, hf⟩ := ob_some hf
        try dsimp only at hf
        refine kc_i (wr := []) (As := [.int y2]) (rest := []) [0, 1, 2] [] [0, 1] 0 0 hCF (okX0_isThere l hq2) (cwV 1 hts gX0_countThere_X0_isThere rfl rfl rfl ydX0_isThere ⟨Nat.le_of_ble_eq_true rfl, Nat.le_of_ble_eq_true rfl⟩) hK hP hD hS hA rfl rfl rfl rfl rfl (fun _ h => by cases h) rfl rfl rfl rfl hl.1 rfl (Nat.le_of_ble_eq_true rfl) dX0_countThere_12 ⟨Nat.zero_le _, Nat.zero_le _⟩ (fun H locs hP hD hS => ?_)
        have hP : va_P (dC, dI) vwCl (w0 o0 o1 o2 cA cB zs0 ns0 ak0 hd0 br0 dp0 de0 hn0 sm0) H := hP
        have hD : va_D A (w0 o0 o1 o2 cA cB zs0 ns0 ak0 hd0 br0 dp0 de0 hn0 sm0) := hD
        refine lv_if_eq (tgt := 21) hx hb dX0_countThere_15 (by decide) (fun c3 => ?_) (fun c3 => ?_)
        · have hf := (if_pos c3).symm.trans hf
          refine lv_iinc (v := y2 + 1) (lv' := [(2, .int (y2 + 1)), (0, .ref o0), (1, .int y1)]) hx hb dX0_countThere_21 hl (k := 2) rfl (congrArg (fun t => y2 + t) (by decide)) (by decide) rfl (fun ls hl => ?_)
          refine lv_goto (tgt := 4) hx hb dX0_countThere_24 (by decide) ?_
          exact ih _ _ _ _ _ hf hP hD hS (lv_sub hl [1, 2, 0] rfl)
        · have hf := (if_neg c3).symm.trans hf
          refine lv_iinc (v := y1 + 1) (lv' := [(1, .int (y1 + 1)), (0, .ref o0), (2, .int y2)]) hx hb dX0_countThere_18 hl (k := 1) rfl (congrArg (fun t => y1 + t) (by decide)) (by decide) rfl (fun ls hl => ?_)
          refine lv_iinc (v := y2 + 1) (lv' := [(2, .int (y2 + 1)), (1, .int (y1 + 1)), (0, .ref o0)]) hx hb dX0_countThere_21 hl (k := 2) rfl (congrArg (fun t => y2 + t) (by decide)) (by decide) rfl (fun ls hl => ?_)
          refine lv_goto (tgt := 4) hx hb dX0_countThere_24 (by decide) ?_
          exact ih _ _ _ _ _ hf hP hD hS (lv_sub hl [2, 1, 0] rfl)
  have hl := lv_entry ([.ref o0]) (n := 3) (Nat.le_of_ble_eq_true rfl)
  rw [lg_entry_eq]
  generalize (lg_sl ([.ref o0]) ++ List.replicate (3 - (lg_sl ([.ref o0])).length) Slot.unset).toArray = ls at hl ⊢
  have hl : lv_has ls 3 [(0, .ref o0)] := hl
  refine lv_iconst (v := 0) hx hb dX0_countThere_0 (by decide) ?_
  refine lv_istore_n (lv' := [(1, .int 0), (0, .ref o0)]) hx hb dX0_countThere_1 rfl hl (by decide) rfl (fun ls hl => ?_)
  refine lv_iconst (v := 0) hx hb dX0_countThere_2 (by decide) ?_
  refine lv_istore_n (lv' := [(2, .int 0), (1, .int 0), (0, .ref o0)]) hx hb dX0_countThere_3 rfl hl (by decide) rfl (fun ls hl => ?_)
  exact loop4 9 _ _ _ _ _ hf hP hD hS (lv_sub hl [2, 1, 0] rfl)
set_option maxHeartbeats 4000000 in
set_option maxRecDepth 100000 in
theorem okX0_writeHeld (l : Launch) {dC : Nat → ClassId} {dI : Nat → Nat → Nat} {o0 o1 o2 : Nat} {cA cB : ClassId} {sz : Nat} {x1 x2 x3 : Int32} {zs0 ns0 : Nat → Int32} {ak0 hd0 br0 dp0 de0 hn0 : Int32} {sm0 : Int64} {r : Int32} {st2 : S0} (hf : fX0_writeHeld x1 x2 x3 zs0 ns0 ak0 hd0 br0 dp0 de0 hn0 sm0 = some (r, st2)) : kMi l yX0_writeHeld wsX0_writeHeld ({ frames := 2, cells := 0, slots := 0, locals := 42 }) (dC, dI) vwCl [(cA, .int), (cB, .int)] (w0 o0 o1 o2 cA cB zs0 ns0 ak0 hd0 br0 dp0 de0 hn0 sm0) (w0t o0 o1 o2 cA cB st2) [.ref o0, .int x1, .int x2, .int x3] sz r := by
  rw [fX0_writeHeld] at hf
  refine Met.ofW (cc := cX0_writeHeld) (maxL := 4) (ret := (some .int)) (by decide) rfl ?_
  intro p e s m args below meth c s₁ B hml hv
  obtain ⟨rfl, hsz, hP, hK, hD0⟩ := hv
  have hx := B.exec
  have hb := B.bytes
  have hr := B.returns
  have hts := atoms_spec (ws := wsX0_writeHeld) B.pre
  have hown : s.vm.findClass RX0 = some m.cls := findClass_of_methodNamed B.named
  have hlocks := B.notSynchronized
  subst hsz
  have hD := hD0.self (sz := s.heap.size)
  generalize hAe : va_A (w0 o0 o1 o2 cA cB zs0 ns0 ak0 hd0 br0 dp0 de0 hn0 sm0) s.heap.size = A at hD ⊢
  have hA : ∀ q : Nat, s.heap.size ≤ q → A q := fun q h => by rw [← hAe]; exact Or.inr h
  have hS : va_S A s.heap s.heap [] := va_S.rf
  have hin0 : ∀ w ∈ wsX00, w ∈ wsX0_writeHeld := fun w h => List.mem_cons_of_mem _ (List.mem_append_right _ h)
  have hCF : CallFix p m c cX0_writeHeld 4 s _ wsX0_writeHeld RX0 := ⟨hx, hb, hml, hown, hts⟩
  have hl := lv_entry ([.ref o0, .int x1, .int x2, .int x3]) (n := 4) (Nat.le_of_ble_eq_true rfl)
  rw [lg_entry_eq]
  generalize (lg_sl ([.ref o0, .int x1, .int x2, .int x3]) ++ List.replicate (4 - (lg_sl ([.ref o0, .int x1, .int x2, .int x3])).length) Slot.unset).toArray = ls at hl ⊢
  have hl : lv_has ls 4 [(0, .ref o0), (1, .int x1), (2, .int x2), (3, .int x3)] := hl
  refine lv_aload_n hx hb dX0_writeHeld_0 rfl (lv_at hl 0 rfl) ?_
  refine lv_iload_n hx hb dX0_writeHeld_1 rfl (lv_at hl 1 rfl) ?_
  refine lv_iload_n hx hb dX0_writeHeld_2 rfl (lv_at hl 2 rfl) ?_
  obtain ⟨r1, hq1, hf⟩ := ob_some hf
  try dsimp only at hf
  refine kc_i (wr := []) (As := [.int x1, .int x2]) (rest := []) [0, 1, 2] [] [0, 1] 0 0 hCF (okX0_hasPlace l hq1) (cwV 2 hts gX0_writeHeld_X0_hasPlace rfl rfl rfl ydX0_hasPlace ⟨Nat.le_of_ble_eq_true rfl, Nat.le_of_ble_eq_true rfl⟩) hK hP hD hS hA rfl rfl rfl rfl rfl (fun _ h => by cases h) rfl rfl rfl rfl hl.1 rfl (Nat.le_of_ble_eq_true rfl) dX0_writeHeld_3 ⟨Nat.zero_le _, Nat.zero_le _⟩ (fun H locs hP hD hS => ?_)
  have hP : va_P (dC, dI) vwCl (w0 o0 o1 o2 cA cB zs0 ns0 ak0 hd0 br0 dp0 de0 hn0 sm0) H := hP
  have hD : va_D A (w0 o0 o1 o2 cA cB zs0 ns0 ak0 hd0 br0 dp0 de0 hn0 sm0) := hD
  refine lv_if_ne (tgt := 12) hx hb dX0_writeHeld_6 (by decide) (fun c2 => ?_) (fun c2 => ?_)
  · have hf := (if_neg c2).symm.trans hf
    refine lv_aload_n hx hb dX0_writeHeld_12 rfl (lv_at hl 0 rfl) ?_
    refine lv_iload_n hx hb dX0_writeHeld_13 rfl (lv_at hl 1 rfl) ?_
    refine lv_iload_n hx hb dX0_writeHeld_14 rfl (lv_at hl 2 rfl) ?_
    refine lv_iload_n hx hb dX0_writeHeld_15 rfl (lv_at hl 3 rfl) ?_
    obtain ⟨⟨zs3, ns3, ak3, hd3, br3, dp3, de3, hn3, sm3⟩, hq3, hf⟩ := ob_some hf
    try dsimp only at hf
    refine kc_v (wr := []) (As := [.int x1, .int x2, .int x3]) (rest := []) [0, 1, 2] [] [0, 1] 0 0 hCF (okX0_put l hq3) (cwV 3 hts gX0_writeHeld_X0_put rfl rfl rfl ydX0_put ⟨Nat.le_of_ble_eq_true rfl, Nat.le_of_ble_eq_true rfl⟩) hK hP hD hS hA rfl rfl rfl rfl rfl (fun _ h => by cases h) rfl rfl rfl rfl hl.1 rfl (Nat.le_of_ble_eq_true rfl) dX0_writeHeld_16 ⟨Nat.zero_le _, Nat.zero_le _⟩ (fun H locs hP hD hS => ?_)
    have hP : va_P (dC, dI) vwCl (w0 o0 o1 o2 cA cB zs3 ns3 ak3 hd3 br3 dp3 de3 hn3 sm3) H := hP
    have hD : va_D A (w0 o0 o1 o2 cA cB zs3 ns3 ak3 hd3 br3 dp3 de3 hn3 sm3) := hD
    refine lv_iconst (v := 1) hx hb dX0_writeHeld_19 (by decide) ?_
    obtain ⟨hv, hu⟩ := os_pair hf
    subst hu
    exact W.iret (v := 1) hx hb hr (fun t ht hW => k_endi hv hP hK hD hS ht hW) hS.2.2 dX0_writeHeld_20
  · have hf := (if_pos c2).symm.trans hf
    refine lv_bipush (v := (-12)) hx hb dX0_writeHeld_9 (by decide) ?_
    obtain ⟨hv, hu⟩ := os_pair hf
    subst hu
    exact W.iret (v := (-12)) hx hb hr (fun t ht hW => k_endi hv hP hK hD hS ht hW) hS.2.2 dX0_writeHeld_11
