/-! contracts, by program (wip/gen.py) -/
set_option maxHeartbeats 4000000 in
set_option maxRecDepth 100000 in
theorem okX1_in (l : Launch) {dC : Nat → ClassId} {dI : Nat → Nat → Nat} {sz : Nat} {x1 x2 x3 : Int32}  {r : Int32} (hf : fX1_in x1 x2 x3 = some r) : kMi l yX1_in wsX1_in ({ frames := 0, cells := 0, slots := 0, locals := 0 }) (dC, dI) vwCl [] [] [] [.int x1, .int x2, .int x3] sz r := by
  rw [fX1_in] at hf
  refine Met.ofW (cc := cX1_in) (maxL := 3) (ret := (some .boolean)) (by decide) rfl ?_
  intro p e s m args below meth c s₁ B hml hv
  obtain ⟨rfl, hsz, hP, hK, hD0⟩ := hv
  have hx := B.exec
  have hb := B.bytes
  have hr := B.returns
  have hts := atoms_spec (ws := wsX1_in) B.pre
  have hown : s.vm.findClass RX1 = some m.cls := findClass_of_methodNamed B.named
  have hlocks := B.notSynchronized
  subst hsz
  have hD := hD0.self (sz := s.heap.size)
  generalize hAe : va_A [] s.heap.size = A at hD ⊢
  have hA : ∀ q : Nat, s.heap.size ≤ q → A q := fun q h => by rw [← hAe]; exact Or.inr h
  have hS : va_S A s.heap s.heap [] := va_S.rf
  have hCF : CallFix p m c cX1_in 3 s _ wsX1_in RX1 := ⟨hx, hb, hml, hown, hts⟩
  have hl := lv_entry ([.int x1, .int x2, .int x3]) (n := 3) (Nat.le_of_ble_eq_true rfl)
  rw [lg_entry_eq]
  generalize (lg_sl ([.int x1, .int x2, .int x3]) ++ List.replicate (3 - (lg_sl ([.int x1, .int x2, .int x3])).length) Slot.unset).toArray = ls at hl ⊢
  have hl : lv_has ls 3 [(0, .int x1), (1, .int x2), (2, .int x3)] := hl
  refine lv_iload_n hx hb dX1_in_0 rfl (lv_at hl 0 rfl) ?_
  refine lv_iload_n hx hb dX1_in_1 rfl (lv_at hl 1 rfl) ?_
  refine lv_icmp_lt (tgt := 14) hx hb dX1_in_2 (by decide) (fun c1 => ?_) (fun c1 => ?_)
  · have hf := (if_pos c1).symm.trans hf
    refine lv_iconst (v := 0) hx hb dX1_in_14 (by decide) ?_
    have hv := Option.some.inj hf
    exact W.zret (v := 0) hx hb hr (by decide) (fun t ht hW => k_endi hv hP hK hD hS ht hW) hS.2.2 dX1_in_15
  · have hf := (if_neg c1).symm.trans hf
    refine lv_iload_n hx hb dX1_in_5 rfl (lv_at hl 0 rfl) ?_
    refine lv_iload_n hx hb dX1_in_6 rfl (lv_at hl 2 rfl) ?_
    refine lv_icmp_gt (tgt := 14) hx hb dX1_in_7 (by decide) (fun c2 => ?_) (fun c2 => ?_)
    · have hf := (if_pos c2).symm.trans hf
      refine lv_iconst (v := 0) hx hb dX1_in_14 (by decide) ?_
      have hv := Option.some.inj hf
      exact W.zret (v := 0) hx hb hr (by decide) (fun t ht hW => k_endi hv hP hK hD hS ht hW) hS.2.2 dX1_in_15
    · have hf := (if_neg c2).symm.trans hf
      refine lv_iconst (v := 1) hx hb dX1_in_10 (by decide) ?_
      refine lv_goto (tgt := 15) hx hb dX1_in_11 (by decide) ?_
      have hv := Option.some.inj hf
      exact W.zret (v := 1) hx hb hr (by decide) (fun t ht hW => k_endi hv hP hK hD hS ht hW) hS.2.2 dX1_in_15
set_option maxHeartbeats 4000000 in
set_option maxRecDepth 100000 in
theorem okX1_isDesk (l : Launch) {dC : Nat → ClassId} {dI : Nat → Nat → Nat} {sz : Nat} {x1 : Int32}  {r : Int32} (hf : fX1_isDesk x1 = some r) : kMi l yX1_isDesk wsX1_isDesk ({ frames := 1, cells := 0, slots := 0, locals := 22 }) (dC, dI) vwCl [] [] [] [.int x1] sz r := by
  rw [fX1_isDesk] at hf
  refine Met.ofW (cc := cX1_isDesk) (maxL := 1) (ret := (some .boolean)) (by decide) rfl ?_
  intro p e s m args below meth c s₁ B hml hv
  obtain ⟨rfl, hsz, hP, hK, hD0⟩ := hv
  have hx := B.exec
  have hb := B.bytes
  have hr := B.returns
  have hts := atoms_spec (ws := wsX1_isDesk) B.pre
  have hown : s.vm.findClass RX1 = some m.cls := findClass_of_methodNamed B.named
  have hlocks := B.notSynchronized
  subst hsz
  have hD := hD0.self (sz := s.heap.size)
  generalize hAe : va_A [] s.heap.size = A at hD ⊢
  have hA : ∀ q : Nat, s.heap.size ≤ q → A q := fun q h => by rw [← hAe]; exact Or.inr h
  have hS : va_S A s.heap s.heap [] := va_S.rf
  have hCF : CallFix p m c cX1_isDesk 1 s _ wsX1_isDesk RX1 := ⟨hx, hb, hml, hown, hts⟩
  have hl := lv_entry ([.int x1]) (n := 1) (Nat.le_of_ble_eq_true rfl)
  rw [lg_entry_eq]
  generalize (lg_sl ([.int x1]) ++ List.replicate (1 - (lg_sl ([.int x1])).length) Slot.unset).toArray = ls at hl ⊢
  have hl : lv_has ls 1 [(0, .int x1)] := hl
  refine lv_iload_n hx hb dX1_isDesk_0 rfl (lv_at hl 0 rfl) ?_
  refine lv_iconst (v := 0) hx hb dX1_isDesk_1 (by decide) ?_
  refine lv_bipush (v := 7) hx hb dX1_isDesk_2 (by decide) ?_
  obtain ⟨r1, hq1, hf⟩ := ob_some hf
  try dsimp only at hf
  refine ks_i (wr := []) (As := [.int x1, .int 0, .int 7]) (rest := []) [] hCF (okX1_in l hq1) (va_cwS 3 hts gX1_isDesk_X1_in rfl rfl rfl ydX1_in ⟨Nat.le_of_ble_eq_true rfl, Nat.le_of_ble_eq_true rfl⟩) hK hP hD hS hA rfl rfl rfl hl.1 rfl (Nat.le_of_ble_eq_true rfl) dX1_isDesk_4 ⟨Nat.zero_le _, Nat.zero_le _⟩ (fun H locs hP hD hS => ?_)
  have hP : va_P (dC, dI) vwCl [] H := hP
  have hD : va_D A [] := hD
  have hv := Option.some.inj hf
  exact W.zret (v := r1) hx hb hr (nb_X1_in hq1) (fun t ht hW => k_endi hv hP hK hD hS ht hW) hS.2.2 dX1_isDesk_7
set_option maxHeartbeats 4000000 in
set_option maxRecDepth 100000 in
theorem okX1_holds (l : Launch) {dC : Nat → ClassId} {dI : Nat → Nat → Nat} {o0 o1 o2 : Nat} {cA cB : ClassId} {sz : Nat} {x1 : Int32} {zs0 ns0 : Nat → Int32} {hn0 : Int32} {sm0 ak0 hd0 br0 : Int64} {dp0 de0 : Int32} {r : Int32} {st2 : S1} (hf : fX1_holds x1 zs0 ns0 hn0 sm0 ak0 hd0 br0 dp0 de0 = some (r, st2)) : kMi l yX1_holds wsX1_holds ({ frames := 0, cells := 0, slots := 0, locals := 0 }) (dC, dI) vwCl [(cA, .int), (cB, .int)] (w1 o0 o1 o2 cA cB zs0 ns0 hn0 sm0 ak0 hd0 br0 dp0 de0) (w1t o0 o1 o2 cA cB st2) [.ref o0, .int x1] sz r := by
  rw [fX1_holds] at hf
  refine Met.ofW (cc := cX1_holds) (maxL := 2) (ret := (some .boolean)) (by decide) rfl ?_
  intro p e s m args below meth c s₁ B hml hv
  obtain ⟨rfl, hsz, hP, hK, hD0⟩ := hv
  have hx := B.exec
  have hb := B.bytes
  have hr := B.returns
  have hts := atoms_spec (ws := wsX1_holds) B.pre
  have hown : s.vm.findClass RX1 = some m.cls := findClass_of_methodNamed B.named
  have hlocks := B.notSynchronized
  subst hsz
  have hD := hD0.self (sz := s.heap.size)
  generalize hAe : va_A (w1 o0 o1 o2 cA cB zs0 ns0 hn0 sm0 ak0 hd0 br0 dp0 de0) s.heap.size = A at hD ⊢
  have hA : ∀ q : Nat, s.heap.size ≤ q → A q := fun q h => by rw [← hAe]; exact Or.inr h
  have hS : va_S A s.heap s.heap [] := va_S.rf
  have hin0 : ∀ w ∈ wsX10, w ∈ wsX1_holds := fun w h => List.mem_cons_of_mem _ (List.mem_append_right _ h)
  have hfl9 := hts (.fieldLink RX1 9 "CountRoomModel" "sizes" "[I") (by decide +kernel)
  have hfl20 := hts (.fieldLink RX1 20 "CountRoomModel" "asked" "J") (by decide +kernel)
  have hfl24 := hts (.fieldLink RX1 24 "CountRoomModel" "held" "J") (by decide +kernel)
  have hfl27 := hts (.fieldLink RX1 27 "CountRoomModel" "depth" "I") (by decide +kernel)
  have hfl31 := hts (.fieldLink RX1 31 "CountRoomModel" "deepest" "I") (by decide +kernel)
  have hCF : CallFix p m c cX1_holds 2 s _ wsX1_holds RX1 := ⟨hx, hb, hml, hown, hts⟩
  have hl := lv_entry ([.ref o0, .int x1]) (n := 2) (Nat.le_of_ble_eq_true rfl)
  rw [lg_entry_eq]
  generalize (lg_sl ([.ref o0, .int x1]) ++ List.replicate (2 - (lg_sl ([.ref o0, .int x1])).length) Slot.unset).toArray = ls at hl ⊢
  have hl : lv_has ls 2 [(0, .ref o0), (1, .int x1)] := hl
  refine lv_aload_n hx hb dX1_holds_0 rfl (lv_at hl 0 rfl) ?_
  refine lv_dup hx hb dX1_holds_1 rfl ?_
  refine va_get (D := (dC, dI)) (ci := 1) (v := .long ak0) (C := RX1) (T := TX1) (N := 9) hx hb hts hin0 hown hK hP 0 rfl rfl 4 (by decide) hfl20 (fun _ h9 => h9) rfl dX1_holds_2 ?_
  refine lv_lconst (v := 1) hx hb dX1_holds_5 (by decide) ?_
  refine lv_ladd hx hb dX1_holds_6 ?_
  refine va_put (D := (dC, dI)) (ci := 1) (v := .long (ak0 + 1)) (ty := .long) (C := RX1) (T := TX1) (N := 9) hx hb hts hin0 tyX1 tyX1_ok nmX1 hown hK hP hD hS 0 rfl rfl 4 (by decide) hfl20 (fun _ h9 => h9) rfl (by decide +kernel) rfl rfl (Nat.le_of_ble_eq_true rfl) dX1_holds_7 (fun H locs hP hD hS => ?_)
  have hP : va_P (dC, dI) vwCl (w1 o0 o1 o2 cA cB zs0 ns0 hn0 sm0 (ak0 + 1) hd0 br0 dp0 de0) H := hP
  have hD : va_D A (w1 o0 o1 o2 cA cB zs0 ns0 hn0 sm0 (ak0 + 1) hd0 br0 dp0 de0) := hD
  refine lv_aload_n hx hb dX1_holds_10 rfl (lv_at hl 0 rfl) ?_
  refine va_get (D := (dC, dI)) (ci := 1) (v := .ref o1) (C := RX1) (T := TX1) (N := 9) hx hb hts hin0 hown hK hP 0 rfl rfl 0 (by decide) hfl9 (fun _ h9 => h9) rfl dX1_holds_11 ?_
  refine lv_iload_n hx hb dX1_holds_14 rfl (lv_at hl 1 rfl) ?_
  obtain ⟨hi1, hf⟩ := og_no hf
  refine va_iald hx hb hK hP 1 0 rfl rfl hi1 dX1_holds_15 ?_
  refine lv_if_ne (tgt := 21) hx hb dX1_holds_16 (by decide) (fun c2 => ?_) (fun c2 => ?_)
  · have hf := (if_neg c2).symm.trans hf
    refine lv_aload_n hx hb dX1_holds_21 rfl (lv_at hl 0 rfl) ?_
    refine lv_dup hx hb dX1_holds_22 rfl ?_
    refine va_get (D := (dC, dI)) (ci := 1) (v := .long hd0) (C := RX1) (T := TX1) (N := 9) hx hb hts hin0 hown hK hP 0 rfl rfl 5 (by decide) hfl24 (fun _ h9 => h9) rfl dX1_holds_23 ?_
    refine lv_lconst (v := 1) hx hb dX1_holds_26 (by decide) ?_
    refine lv_ladd hx hb dX1_holds_27 ?_
    refine va_put (D := (dC, dI)) (ci := 1) (v := .long (hd0 + 1)) (ty := .long) (C := RX1) (T := TX1) (N := 9) hx hb hts hin0 tyX1 tyX1_ok nmX1 hown hK hP hD hS 0 rfl rfl 5 (by decide) hfl24 (fun _ h9 => h9) rfl (by decide +kernel) rfl rfl (Nat.le_of_ble_eq_true rfl) dX1_holds_28 (fun H locs hP hD hS => ?_)
    have hP : va_P (dC, dI) vwCl (w1 o0 o1 o2 cA cB zs0 ns0 hn0 sm0 (ak0 + 1) (hd0 + 1) br0 dp0 de0) H := hP
    have hD : va_D A (w1 o0 o1 o2 cA cB zs0 ns0 hn0 sm0 (ak0 + 1) (hd0 + 1) br0 dp0 de0) := hD
    refine lv_aload_n hx hb dX1_holds_31 rfl (lv_at hl 0 rfl) ?_
    refine lv_dup hx hb dX1_holds_32 rfl ?_
    refine va_get (D := (dC, dI)) (ci := 1) (v := .int dp0) (C := RX1) (T := TX1) (N := 9) hx hb hts hin0 hown hK hP 0 rfl rfl 7 (by decide) hfl27 (fun _ h9 => h9) rfl dX1_holds_33 ?_
    refine lv_iconst (v := 1) hx hb dX1_holds_36 (by decide) ?_
    refine lv_iadd hx hb dX1_holds_37 ?_
    refine va_put (D := (dC, dI)) (ci := 1) (v := .int (dp0 + 1)) (ty := .int) (C := RX1) (T := TX1) (N := 9) hx hb hts hin0 tyX1 tyX1_ok nmX1 hown hK hP hD hS 0 rfl rfl 7 (by decide) hfl27 (fun _ h9 => h9) rfl (by decide +kernel) rfl rfl (Nat.le_of_ble_eq_true rfl) dX1_holds_38 (fun H locs hP hD hS => ?_)
    have hP : va_P (dC, dI) vwCl (w1 o0 o1 o2 cA cB zs0 ns0 hn0 sm0 (ak0 + 1) (hd0 + 1) br0 (dp0 + 1) de0) H := hP
    have hD : va_D A (w1 o0 o1 o2 cA cB zs0 ns0 hn0 sm0 (ak0 + 1) (hd0 + 1) br0 (dp0 + 1) de0) := hD
    refine lv_aload_n hx hb dX1_holds_41 rfl (lv_at hl 0 rfl) ?_
    refine lv_aload_n hx hb dX1_holds_42 rfl (lv_at hl 0 rfl) ?_
    refine va_get (D := (dC, dI)) (ci := 1) (v := .int (dp0 + 1)) (C := RX1) (T := TX1) (N := 9) hx hb hts hin0 hown hK hP 0 rfl rfl 7 (by decide) hfl27 (fun _ h9 => h9) rfl dX1_holds_43 ?_
    refine lv_aload_n hx hb dX1_holds_46 rfl (lv_at hl 0 rfl) ?_
    refine va_get (D := (dC, dI)) (ci := 1) (v := .int de0) (C := RX1) (T := TX1) (N := 9) hx hb hts hin0 hown hK hP 0 rfl rfl 8 (by decide) hfl31 (fun _ h9 => h9) rfl dX1_holds_47 ?_
    refine lv_icmp_le (tgt := 60) hx hb dX1_holds_50 (by decide) (fun c3 => ?_) (fun c3 => ?_)
    · have hf := (if_pos c3).symm.trans hf
      refine lv_aload_n hx hb dX1_holds_60 rfl (lv_at hl 0 rfl) ?_
      refine va_get (D := (dC, dI)) (ci := 1) (v := .int de0) (C := RX1) (T := TX1) (N := 9) hx hb hts hin0 hown hK hP 0 rfl rfl 8 (by decide) hfl31 (fun _ h9 => h9) rfl dX1_holds_61 ?_
      refine va_put (D := (dC, dI)) (ci := 1) (v := .int de0) (ty := .int) (C := RX1) (T := TX1) (N := 9) hx hb hts hin0 tyX1 tyX1_ok nmX1 hown hK hP hD hS 0 rfl rfl 8 (by decide) hfl31 (fun _ h9 => h9) rfl (by decide +kernel) rfl rfl (Nat.le_of_ble_eq_true rfl) dX1_holds_64 (fun H locs hP hD hS => ?_)
      have hP : va_P (dC, dI) vwCl (w1 o0 o1 o2 cA cB zs0 ns0 hn0 sm0 (ak0 + 1) (hd0 + 1) br0 (dp0 + 1) de0) H := hP
      have hD : va_D A (w1 o0 o1 o2 cA cB zs0 ns0 hn0 sm0 (ak0 + 1) (hd0 + 1) br0 (dp0 + 1) de0) := hD
      refine lv_iconst (v := 1) hx hb dX1_holds_67 (by decide) ?_
      obtain ⟨hv, hu⟩ := os_pair hf
      subst hu
      exact W.zret (v := 1) hx hb hr (by decide) (fun t ht hW => k_endi hv hP hK hD hS ht hW) hS.2.2 dX1_holds_68
    · have hf := (if_neg c3).symm.trans hf
      refine lv_aload_n hx hb dX1_holds_53 rfl (lv_at hl 0 rfl) ?_
      refine va_get (D := (dC, dI)) (ci := 1) (v := .int (dp0 + 1)) (C := RX1) (T := TX1) (N := 9) hx hb hts hin0 hown hK hP 0 rfl rfl 7 (by decide) hfl27 (fun _ h9 => h9) rfl dX1_holds_54 ?_
      refine lv_goto (tgt := 64) hx hb dX1_holds_57 (by decide) ?_
      refine va_put (D := (dC, dI)) (ci := 1) (v := .int (dp0 + 1)) (ty := .int) (C := RX1) (T := TX1) (N := 9) hx hb hts hin0 tyX1 tyX1_ok nmX1 hown hK hP hD hS 0 rfl rfl 8 (by decide) hfl31 (fun _ h9 => h9) rfl (by decide +kernel) rfl rfl (Nat.le_of_ble_eq_true rfl) dX1_holds_64 (fun H locs hP hD hS => ?_)
      have hP : va_P (dC, dI) vwCl (w1 o0 o1 o2 cA cB zs0 ns0 hn0 sm0 (ak0 + 1) (hd0 + 1) br0 (dp0 + 1) (dp0 + 1)) H := hP
      have hD : va_D A (w1 o0 o1 o2 cA cB zs0 ns0 hn0 sm0 (ak0 + 1) (hd0 + 1) br0 (dp0 + 1) (dp0 + 1)) := hD
      refine lv_iconst (v := 1) hx hb dX1_holds_67 (by decide) ?_
      obtain ⟨hv, hu⟩ := os_pair hf
      subst hu
      exact W.zret (v := 1) hx hb hr (by decide) (fun t ht hW => k_endi hv hP hK hD hS ht hW) hS.2.2 dX1_holds_68
  · have hf := (if_pos c2).symm.trans hf
    refine lv_iconst (v := 0) hx hb dX1_holds_19 (by decide) ?_
    obtain ⟨hv, hu⟩ := os_pair hf
    subst hu
    exact W.zret (v := 0) hx hb hr (by decide) (fun t ht hW => k_endi hv hP hK hD hS ht hW) hS.2.2 dX1_holds_20
set_option maxHeartbeats 4000000 in
set_option maxRecDepth 100000 in
theorem okX1_ends (l : Launch) {dC : Nat → ClassId} {dI : Nat → Nat → Nat} {o0 o1 o2 : Nat} {cA cB : ClassId} {sz : Nat} {x1 x2 : Int32} {zs0 ns0 : Nat → Int32} {hn0 : Int32} {sm0 ak0 hd0 br0 : Int64} {dp0 de0 : Int32} {r : Int32} {st2 : S1} (hf : fX1_ends x1 x2 zs0 ns0 hn0 sm0 ak0 hd0 br0 dp0 de0 = some (r, st2)) : kMi l yX1_ends wsX1_ends ({ frames := 0, cells := 0, slots := 0, locals := 0 }) (dC, dI) vwCl [(cA, .int), (cB, .int)] (w1 o0 o1 o2 cA cB zs0 ns0 hn0 sm0 ak0 hd0 br0 dp0 de0) (w1t o0 o1 o2 cA cB st2) [.ref o0, .int x1, .int x2] sz r := by
  rw [fX1_ends] at hf
  refine Met.ofW (cc := cX1_ends) (maxL := 3) (ret := (some .int)) (by decide) rfl ?_
  intro p e s m args below meth c s₁ B hml hv
  obtain ⟨rfl, hsz, hP, hK, hD0⟩ := hv
  have hx := B.exec
  have hb := B.bytes
  have hr := B.returns
  have hts := atoms_spec (ws := wsX1_ends) B.pre
  have hown : s.vm.findClass RX1 = some m.cls := findClass_of_methodNamed B.named
  have hlocks := B.notSynchronized
  subst hsz
  have hD := hD0.self (sz := s.heap.size)
  generalize hAe : va_A (w1 o0 o1 o2 cA cB zs0 ns0 hn0 sm0 ak0 hd0 br0 dp0 de0) s.heap.size = A at hD ⊢
  have hA : ∀ q : Nat, s.heap.size ≤ q → A q := fun q h => by rw [← hAe]; exact Or.inr h
  have hS : va_S A s.heap s.heap [] := va_S.rf
  have hin0 : ∀ w ∈ wsX10, w ∈ wsX1_ends := fun w h => List.mem_cons_of_mem _ (List.mem_append_right _ h)
  have hfl27 := hts (.fieldLink RX1 27 "CountRoomModel" "depth" "I") (by decide +kernel)
  have hfl34 := hts (.fieldLink RX1 34 "CountRoomModel" "broken" "J") (by decide +kernel)
  have hCF : CallFix p m c cX1_ends 3 s _ wsX1_ends RX1 := ⟨hx, hb, hml, hown, hts⟩
  have hl := lv_entry ([.ref o0, .int x1, .int x2]) (n := 3) (Nat.le_of_ble_eq_true rfl)
  rw [lg_entry_eq]
  generalize (lg_sl ([.ref o0, .int x1, .int x2]) ++ List.replicate (3 - (lg_sl ([.ref o0, .int x1, .int x2])).length) Slot.unset).toArray = ls at hl ⊢
  have hl : lv_has ls 3 [(0, .ref o0), (1, .int x1), (2, .int x2)] := hl
  refine lv_aload_n hx hb dX1_ends_0 rfl (lv_at hl 0 rfl) ?_
  refine lv_dup hx hb dX1_ends_1 rfl ?_
  refine va_get (D := (dC, dI)) (ci := 1) (v := .int dp0) (C := RX1) (T := TX1) (N := 9) hx hb hts hin0 hown hK hP 0 rfl rfl 7 (by decide) hfl27 (fun _ h9 => h9) rfl dX1_ends_2 ?_
  refine lv_iload_n hx hb dX1_ends_5 rfl (lv_at hl 1 rfl) ?_
  refine lv_isub hx hb dX1_ends_6 ?_
  refine va_put (D := (dC, dI)) (ci := 1) (v := .int (dp0 - x1)) (ty := .int) (C := RX1) (T := TX1) (N := 9) hx hb hts hin0 tyX1 tyX1_ok nmX1 hown hK hP hD hS 0 rfl rfl 7 (by decide) hfl27 (fun _ h9 => h9) rfl (by decide +kernel) rfl rfl (Nat.le_of_ble_eq_true rfl) dX1_ends_7 (fun H locs hP hD hS => ?_)
  have hP : va_P (dC, dI) vwCl (w1 o0 o1 o2 cA cB zs0 ns0 hn0 sm0 ak0 hd0 br0 (dp0 - x1) de0) H := hP
  have hD : va_D A (w1 o0 o1 o2 cA cB zs0 ns0 hn0 sm0 ak0 hd0 br0 (dp0 - x1) de0) := hD
  refine lv_aload_n hx hb dX1_ends_10 rfl (lv_at hl 0 rfl) ?_
  refine lv_dup hx hb dX1_ends_11 rfl ?_
  refine va_get (D := (dC, dI)) (ci := 1) (v := .long br0) (C := RX1) (T := TX1) (N := 9) hx hb hts hin0 hown hK hP 0 rfl rfl 6 (by decide) hfl34 (fun _ h9 => h9) rfl dX1_ends_12 ?_
  refine lv_iload_n hx hb dX1_ends_15 rfl (lv_at hl 2 rfl) ?_
  refine lv_if_le (tgt := 24) hx hb dX1_ends_16 (by decide) (fun c1 => ?_) (fun c1 => ?_)
  · have hf := (if_pos c1).symm.trans hf
    refine lv_lconst (v := 0) hx hb dX1_ends_24 (by decide) ?_
    refine lv_ladd hx hb dX1_ends_25 ?_
    refine va_put (D := (dC, dI)) (ci := 1) (v := .long (br0 + 0)) (ty := .long) (C := RX1) (T := TX1) (N := 9) hx hb hts hin0 tyX1 tyX1_ok nmX1 hown hK hP hD hS 0 rfl rfl 6 (by decide) hfl34 (fun _ h9 => h9) rfl (by decide +kernel) rfl rfl (Nat.le_of_ble_eq_true rfl) dX1_ends_26 (fun H locs hP hD hS => ?_)
    have hP : va_P (dC, dI) vwCl (w1 o0 o1 o2 cA cB zs0 ns0 hn0 sm0 ak0 hd0 (br0 + 0) (dp0 - x1) de0) H := hP
    have hD : va_D A (w1 o0 o1 o2 cA cB zs0 ns0 hn0 sm0 ak0 hd0 (br0 + 0) (dp0 - x1) de0) := hD
    refine lv_iload_n hx hb dX1_ends_29 rfl (lv_at hl 2 rfl) ?_
    refine lv_if_le (tgt := 40) hx hb dX1_ends_30 (by decide) (fun c2 => ?_) (fun c2 => ?_)
    · have hf := (if_pos c2).symm.trans hf
      refine lv_iconst (v := 0) hx hb dX1_ends_40 (by decide) ?_
      obtain ⟨hv, hu⟩ := os_pair hf
      subst hu
      exact W.iret (v := 0) hx hb hr (fun t ht hW => k_endi hv hP hK hD hS ht hW) hS.2.2 dX1_ends_41
    · have hf := (if_neg c2).symm.trans hf
      refine lv_bipush (v := (-10)) hx hb dX1_ends_33 (by decide) ?_
      refine lv_iload_n hx hb dX1_ends_35 rfl (lv_at hl 2 rfl) ?_
      refine lv_isub hx hb dX1_ends_36 ?_
      refine lv_goto (tgt := 41) hx hb dX1_ends_37 (by decide) ?_
      obtain ⟨hv, hu⟩ := os_pair hf
      subst hu
      exact W.iret (v := (-10) - x2) hx hb hr (fun t ht hW => k_endi hv hP hK hD hS ht hW) hS.2.2 dX1_ends_41
  · have hf := (if_neg c1).symm.trans hf
    refine lv_iload_n hx hb dX1_ends_19 rfl (lv_at hl 1 rfl) ?_
    refine lv_i2l hx hb dX1_ends_20 rfl ?_
    refine lv_goto (tgt := 25) hx hb dX1_ends_21 (by decide) ?_
    refine lv_ladd hx hb dX1_ends_25 ?_
    refine va_put (D := (dC, dI)) (ci := 1) (v := .long (br0 + x1.toInt64)) (ty := .long) (C := RX1) (T := TX1) (N := 9) hx hb hts hin0 tyX1 tyX1_ok nmX1 hown hK hP hD hS 0 rfl rfl 6 (by decide) hfl34 (fun _ h9 => h9) rfl (by decide +kernel) rfl rfl (Nat.le_of_ble_eq_true rfl) dX1_ends_26 (fun H locs hP hD hS => ?_)
    have hP : va_P (dC, dI) vwCl (w1 o0 o1 o2 cA cB zs0 ns0 hn0 sm0 ak0 hd0 (br0 + x1.toInt64) (dp0 - x1) de0) H := hP
    have hD : va_D A (w1 o0 o1 o2 cA cB zs0 ns0 hn0 sm0 ak0 hd0 (br0 + x1.toInt64) (dp0 - x1) de0) := hD
    refine lv_iload_n hx hb dX1_ends_29 rfl (lv_at hl 2 rfl) ?_
    refine lv_if_le (tgt := 40) hx hb dX1_ends_30 (by decide) (fun c3 => ?_) (fun c3 => ?_)
    · have hf := (if_pos c3).symm.trans hf
      refine lv_iconst (v := 0) hx hb dX1_ends_40 (by decide) ?_
      obtain ⟨hv, hu⟩ := os_pair hf
      subst hu
      exact W.iret (v := 0) hx hb hr (fun t ht hW => k_endi hv hP hK hD hS ht hW) hS.2.2 dX1_ends_41
    · have hf := (if_neg c3).symm.trans hf
      refine lv_bipush (v := (-10)) hx hb dX1_ends_33 (by decide) ?_
      refine lv_iload_n hx hb dX1_ends_35 rfl (lv_at hl 2 rfl) ?_
      refine lv_isub hx hb dX1_ends_36 ?_
      refine lv_goto (tgt := 41) hx hb dX1_ends_37 (by decide) ?_
      obtain ⟨hv, hu⟩ := os_pair hf
      subst hu
      exact W.iret (v := (-10) - x2) hx hb hr (fun t ht hW => k_endi hv hP hK hD hS ht hW) hS.2.2 dX1_ends_41
set_option maxHeartbeats 4000000 in
set_option maxRecDepth 100000 in
theorem okX1_isPlace (l : Launch) {dC : Nat → ClassId} {dI : Nat → Nat → Nat} {o0 o1 o2 : Nat} {cA cB : ClassId} {sz : Nat} {x1 x2 : Int32} {zs0 ns0 : Nat → Int32} {hn0 : Int32} {sm0 ak0 hd0 br0 : Int64} {dp0 de0 : Int32} {r : Int32} (hf : fX1_isPlace x1 x2 zs0 ns0 hn0 sm0 ak0 hd0 br0 dp0 de0 = some r) : kMi l yX1_isPlace wsX1_isPlace ({ frames := 1, cells := 0, slots := 0, locals := 22 }) (dC, dI) vwCl [(cA, .int), (cB, .int)] (w1 o0 o1 o2 cA cB zs0 ns0 hn0 sm0 ak0 hd0 br0 dp0 de0) (w1 o0 o1 o2 cA cB zs0 ns0 hn0 sm0 ak0 hd0 br0 dp0 de0) [.ref o0, .int x1, .int x2] sz r := by
  rw [fX1_isPlace] at hf
  refine Met.ofW (cc := cX1_isPlace) (maxL := 3) (ret := (some .boolean)) (by decide) rfl ?_
  intro p e s m args below meth c s₁ B hml hv
  obtain ⟨rfl, hsz, hP, hK, hD0⟩ := hv
  have hx := B.exec
  have hb := B.bytes
  have hr := B.returns
  have hts := atoms_spec (ws := wsX1_isPlace) B.pre
  have hown : s.vm.findClass RX1 = some m.cls := findClass_of_methodNamed B.named
  have hlocks := B.notSynchronized
  subst hsz
  have hD := hD0.self (sz := s.heap.size)
  generalize hAe : va_A (w1 o0 o1 o2 cA cB zs0 ns0 hn0 sm0 ak0 hd0 br0 dp0 de0) s.heap.size = A at hD ⊢
  have hA : ∀ q : Nat, s.heap.size ≤ q → A q := fun q h => by rw [← hAe]; exact Or.inr h
  have hS : va_S A s.heap s.heap [] := va_S.rf
  have hin0 : ∀ w ∈ wsX10, w ∈ wsX1_isPlace := fun w h => List.mem_cons_of_mem _ (List.mem_append_right _ h)
  have hfl9 := hts (.fieldLink RX1 9 "CountRoomModel" "sizes" "[I") (by decide +kernel)
  have hCF : CallFix p m c cX1_isPlace 3 s _ wsX1_isPlace RX1 := ⟨hx, hb, hml, hown, hts⟩
  have hl := lv_entry ([.ref o0, .int x1, .int x2]) (n := 3) (Nat.le_of_ble_eq_true rfl)
  rw [lg_entry_eq]
  generalize (lg_sl ([.ref o0, .int x1, .int x2]) ++ List.replicate (3 - (lg_sl ([.ref o0, .int x1, .int x2])).length) Slot.unset).toArray = ls at hl ⊢
  have hl : lv_has ls 3 [(0, .ref o0), (1, .int x1), (2, .int x2)] := hl
  refine lv_iload_n hx hb dX1_isPlace_0 rfl (lv_at hl 2 rfl) ?_
  refine lv_iconst (v := 0) hx hb dX1_isPlace_1 (by decide) ?_
  refine lv_aload_n hx hb dX1_isPlace_2 rfl (lv_at hl 0 rfl) ?_
  refine va_get (D := (dC, dI)) (ci := 1) (v := .ref o1) (C := RX1) (T := TX1) (N := 9) hx hb hts hin0 hown hK hP 0 rfl rfl 0 (by decide) hfl9 (fun _ h9 => h9) rfl dX1_isPlace_3 ?_
  refine lv_iload_n hx hb dX1_isPlace_6 rfl (lv_at hl 1 rfl) ?_
  obtain ⟨hi1, hf⟩ := og_no hf
  refine va_iald hx hb hK hP 1 0 rfl rfl hi1 dX1_isPlace_7 ?_
  refine lv_iconst (v := 1) hx hb dX1_isPlace_8 (by decide) ?_
  refine lv_isub hx hb dX1_isPlace_9 ?_
  obtain ⟨r2, hq2, hf⟩ := ob_some hf
  try dsimp only at hf
  refine ks_i (wr := w1 o0 o1 o2 cA cB zs0 ns0 hn0 sm0 ak0 hd0 br0 dp0 de0) (As := [.int x2, .int 0, .int ((zs0 x1.toNatClampNeg) - 1)]) (rest := []) [0, 1, 2] hCF (okX1_in l hq2) (va_cwS 3 hts gX1_isPlace_X1_in rfl rfl rfl ydX1_in ⟨Nat.le_of_ble_eq_true rfl, Nat.le_of_ble_eq_true rfl⟩) hK hP hD hS hA rfl rfl rfl hl.1 rfl (Nat.le_of_ble_eq_true rfl) dX1_isPlace_10 ⟨Nat.zero_le _, Nat.zero_le _⟩ (fun H locs hP hD hS => ?_)
  have hP : va_P (dC, dI) vwCl (w1 o0 o1 o2 cA cB zs0 ns0 hn0 sm0 ak0 hd0 br0 dp0 de0) H := hP
  have hD : va_D A (w1 o0 o1 o2 cA cB zs0 ns0 hn0 sm0 ak0 hd0 br0 dp0 de0) := hD
  have hv := Option.some.inj hf
  exact W.zret (v := r2) hx hb hr (nb_X1_in hq2) (fun t ht hW => k_endi hv hP hK hD hS ht hW) hS.2.2 dX1_isPlace_13
set_option maxHeartbeats 4000000 in
set_option maxRecDepth 100000 in
theorem okX1_quotient (l : Launch) {dC : Nat → ClassId} {dI : Nat → Nat → Nat} {sz : Nat} {x1 x2 : Int32}  {r : Int32} (hf : fX1_quotient x1 x2 = some r) : kMi l yX1_quotient wsX1_quotient ({ frames := 0, cells := 0, slots := 0, locals := 0 }) (dC, dI) vwCl [] [] [] [.int x1, .int x2] sz r := by
  rw [fX1_quotient] at hf
  refine Met.ofW (cc := cX1_quotient) (maxL := 2) (ret := (some .int)) (by decide) rfl ?_
  intro p e s m args below meth c s₁ B hml hv
  obtain ⟨rfl, hsz, hP, hK, hD0⟩ := hv
  have hx := B.exec
  have hb := B.bytes
  have hr := B.returns
  have hts := atoms_spec (ws := wsX1_quotient) B.pre
  have hown : s.vm.findClass RX1 = some m.cls := findClass_of_methodNamed B.named
  have hlocks := B.notSynchronized
  subst hsz
  have hD := hD0.self (sz := s.heap.size)
  generalize hAe : va_A [] s.heap.size = A at hD ⊢
  have hA : ∀ q : Nat, s.heap.size ≤ q → A q := fun q h => by rw [← hAe]; exact Or.inr h
  have hS : va_S A s.heap s.heap [] := va_S.rf
  have hCF : CallFix p m c cX1_quotient 2 s _ wsX1_quotient RX1 := ⟨hx, hb, hml, hown, hts⟩
  have hl := lv_entry ([.int x1, .int x2]) (n := 2) (Nat.le_of_ble_eq_true rfl)
  rw [lg_entry_eq]
  generalize (lg_sl ([.int x1, .int x2]) ++ List.replicate (2 - (lg_sl ([.int x1, .int x2])).length) Slot.unset).toArray = ls at hl ⊢
  have hl : lv_has ls 2 [(0, .int x1), (1, .int x2)] := hl
  refine lv_iload_n hx hb dX1_quotient_0 rfl (lv_at hl 0 rfl) ?_
  refine lv_i2l hx hb dX1_quotient_1 rfl ?_
  refine lv_iload_n hx hb dX1_quotient_2 rfl (lv_at hl 1 rfl) ?_
  refine lv_i2l hx hb dX1_quotient_3 rfl ?_
  obtain ⟨hi1, hf⟩ := og_no hf
  refine lv_ldiv hx hb dX1_quotient_4 hi1 ?_
  refine lv_l2i hx hb dX1_quotient_5 rfl ?_
  have hv := Option.some.inj hf
  exact W.iret (v := (x1.toInt64 / x2.toInt64).toInt32) hx hb hr (fun t ht hW => k_endi hv hP hK hD hS ht hW) hS.2.2 dX1_quotient_6
set_option maxHeartbeats 4000000 in
set_option maxRecDepth 100000 in
theorem okX1_open (l : Launch) {dC : Nat → ClassId} {dI : Nat → Nat → Nat} {o0 o1 o2 : Nat} {cA cB : ClassId} {sz : Nat} {x1 x2 : Int32} {zs0 ns0 : Nat → Int32} {hn0 : Int32} {sm0 ak0 hd0 br0 : Int64} {dp0 de0 : Int32} {r : Int32} {st2 : S1} (hf : fX1_open x1 x2 zs0 ns0 hn0 sm0 ak0 hd0 br0 dp0 de0 = some (r, st2)) : kMi l yX1_open wsX1_open ({ frames := 2, cells := 0, slots := 0, locals := 42 }) (dC, dI) vwCl [(cA, .int), (cB, .int)] (w1 o0 o1 o2 cA cB zs0 ns0 hn0 sm0 ak0 hd0 br0 dp0 de0) (w1t o0 o1 o2 cA cB st2) [.ref o0, .int x1, .int x2] sz r := by
  rw [fX1_open] at hf
  refine Met.ofW (cc := cX1_open) (maxL := 4) (ret := (some .int)) (by decide) rfl ?_
  intro p e s m args below meth c s₁ B hml hv
  obtain ⟨rfl, hsz, hP, hK, hD0⟩ := hv
  have hx := B.exec
  have hb := B.bytes
  have hr := B.returns
  have hts := atoms_spec (ws := wsX1_open) B.pre
  have hown : s.vm.findClass RX1 = some m.cls := findClass_of_methodNamed B.named
  have hlocks := B.notSynchronized
  subst hsz
  have hD := hD0.self (sz := s.heap.size)
  generalize hAe : va_A (w1 o0 o1 o2 cA cB zs0 ns0 hn0 sm0 ak0 hd0 br0 dp0 de0) s.heap.size = A at hD ⊢
  have hA : ∀ q : Nat, s.heap.size ≤ q → A q := fun q h => by rw [← hAe]; exact Or.inr h
  have hS : va_S A s.heap s.heap [] := va_S.rf
  have hin0 : ∀ w ∈ wsX10, w ∈ wsX1_open := fun w h => List.mem_cons_of_mem _ (List.mem_append_right _ h)
  have hfl9 := hts (.fieldLink RX1 9 "CountRoomModel" "sizes" "[I") (by decide +kernel)
  have hfl13 := hts (.fieldLink RX1 13 "CountRoomModel" "numbers" "[I") (by decide +kernel)
  have hCF : CallFix p m c cX1_open 4 s _ wsX1_open RX1 := ⟨hx, hb, hml, hown, hts⟩
  have loop40 : ∀ (k : Nat) (y1 y2 y3 : Int32) (zs ns : Nat → Int32) (hn : Int32) (sm ak hd br : Int64) (dp de : Int32) (H : Heap) (locs : List Loc) (ls : Array Slot), fX1_open_40 k y1 y2 y3 zs ns hn sm ak hd br dp de = some (r, st2) → va_P (dC, dI) vwCl (w1 o0 o1 o2 cA cB zs ns hn sm ak hd br dp de) H → va_D A (w1 o0 o1 o2 cA cB zs ns hn sm ak hd br dp de) → va_S A s.heap H locs → lv_has ls 4 [(0, .ref o0), (1, .int y1), (2, .int y2), (3, .int y3)] → W p l e (headSpec wsX1_open ({ frames := 2, cells := 0, slots := 0, locals := 42 })).room s m ([.ref o0, .int x1, .int x2] : List Value).toArray below meth c H locs 0 0 (MQ below (va_Qi (fun (r2 : Int32) (_ : Unit) => r2 = r) (k_out (dC, dI) vwCl [(cA, .int), (cB, .int)] A (w1t o0 o1 o2 cA cB st2)) A) ([.ref o0, .int x1, .int x2] : List Value).toArray s 0 0 A) (F0 m 40 ls []) := by
    intro k
    induction k with
    | zero => intro y1 y2 y3 zs ns hn sm ak hd br dp de H locs ls hf; cases hf
    | succ k ih =>
      intro y1 y2 y3 zs ns hn sm ak hd br dp de H locs ls hf hP hD hS hl
      rw [fX1_open_40] at hf
      refine lv_iload_n hx hb dX1_open_40 rfl (lv_at hl 3 rfl) ?_
      refine lv_bipush (v := 8) hx hb dX1_open_41 (by decide) ?_
      refine lv_icmp_ge (tgt := 64) hx hb dX1_open_43 (by decide) (fun c8 => ?_) (fun c8 => ?_)
      · have hf := (if_pos c8).symm.trans hf
        refine lv_iconst (v := 1) hx hb dX1_open_64 (by decide) ?_
        obtain ⟨hv, hu⟩ := os_pair hf
        subst hu
        exact W.iret (v := 1) hx hb hr (fun t ht hW => k_endi hv hP hK hD hS ht hW) hS.2.2 dX1_open_65
      · have hf := (if_neg c8).symm.trans hf
        refine lv_aload_n hx hb dX1_open_46 rfl (lv_at hl 0 rfl) ?_
        refine va_get (D := (dC, dI)) (ci := 1) (v := .ref o2) (C := RX1) (T := TX1) (N := 9) hx hb hts hin0 hown hK hP 0 rfl rfl 1 (by decide) hfl13 (fun _ h9 => h9) rfl dX1_open_47 ?_
        refine lv_bipush (v := 8) hx hb dX1_open_50 (by decide) ?_
        refine lv_iload_n hx hb dX1_open_52 rfl (lv_at hl 1 rfl) ?_
        refine lv_imul hx hb dX1_open_53 ?_
        refine lv_iload_n hx hb dX1_open_54 rfl (lv_at hl 3 rfl) ?_
        refine lv_iadd hx hb dX1_open_55 ?_
        refine lv_iconst (v := 0) hx hb dX1_open_56 (by decide) ?_
        obtain ⟨hi9, hf⟩ := og_no hf
        refine va_iast hx hb hK hP hD hS 2 1 rfl rfl hi9 dX1_open_57 (fun H locs hP hD hS => ?_)
        have hP : va_P (dC, dI) vwCl (w1 o0 o1 o2 cA cB zs (upd ns ((8 * y1) + y3).toNatClampNeg 0) hn sm ak hd br dp de) H := hP
        have hD : va_D A (w1 o0 o1 o2 cA cB zs (upd ns ((8 * y1) + y3).toNatClampNeg 0) hn sm ak hd br dp de) := hD
        refine lv_iinc (v := y3 + 1) (lv' := [(3, .int (y3 + 1)), (0, .ref o0), (1, .int y1), (2, .int y2)]) hx hb dX1_open_58 hl (k := 3) rfl (congrArg (fun t => y3 + t) (by decide)) (by decide) rfl (fun ls hl => ?_)
        refine lv_goto (tgt := 40) hx hb dX1_open_61 (by decide) ?_
        exact ih _ _ _ _ _ _ _ _ _ _ _ _ _ _ _ hf hP hD hS (lv_sub hl [1, 2, 3, 0] rfl)
  have hl := lv_entry ([.ref o0, .int x1, .int x2]) (n := 4) (Nat.le_of_ble_eq_true rfl)
  rw [lg_entry_eq]
  generalize (lg_sl ([.ref o0, .int x1, .int x2]) ++ List.replicate (4 - (lg_sl ([.ref o0, .int x1, .int x2])).length) Slot.unset).toArray = ls at hl ⊢
  have hl : lv_has ls 4 [(0, .ref o0), (1, .int x1), (2, .int x2)] := hl
  refine lv_iload_n hx hb dX1_open_0 rfl (lv_at hl 1 rfl) ?_
  obtain ⟨r1, hq1, hf⟩ := ob_some hf
  try dsimp only at hf
  refine ks_i (wr := w1 o0 o1 o2 cA cB zs0 ns0 hn0 sm0 ak0 hd0 br0 dp0 de0) (As := [.int x1]) (rest := []) [0, 1, 2] hCF (okX1_isDesk l hq1) (va_cwS 1 hts gX1_open_X1_isDesk rfl rfl rfl ydX1_isDesk ⟨Nat.le_of_ble_eq_true rfl, Nat.le_of_ble_eq_true rfl⟩) hK hP hD hS hA rfl rfl rfl hl.1 rfl (Nat.le_of_ble_eq_true rfl) dX1_open_1 ⟨Nat.zero_le _, Nat.zero_le _⟩ (fun H locs hP hD hS => ?_)
  have hP : va_P (dC, dI) vwCl (w1 o0 o1 o2 cA cB zs0 ns0 hn0 sm0 ak0 hd0 br0 dp0 de0) H := hP
  have hD : va_D A (w1 o0 o1 o2 cA cB zs0 ns0 hn0 sm0 ak0 hd0 br0 dp0 de0) := hD
  refine lv_if_eq (tgt := 17) hx hb dX1_open_4 (by decide) (fun c2 => ?_) (fun c2 => ?_)
  · have hf := (if_pos c2).symm.trans hf
    refine lv_bipush (v := (-2)) hx hb dX1_open_17 (by decide) ?_
    obtain ⟨hv, hu⟩ := os_pair hf
    subst hu
    exact W.iret (v := (-2)) hx hb hr (fun t ht hW => k_endi hv hP hK hD hS ht hW) hS.2.2 dX1_open_19
  · have hf := (if_neg c2).symm.trans hf
    refine lv_iload_n hx hb dX1_open_7 rfl (lv_at hl 2 rfl) ?_
    refine lv_iconst (v := 1) hx hb dX1_open_8 (by decide) ?_
    refine lv_bipush (v := 8) hx hb dX1_open_9 (by decide) ?_
    obtain ⟨r3, hq3, hf⟩ := ob_some hf
    try dsimp only at hf
    refine ks_i (wr := w1 o0 o1 o2 cA cB zs0 ns0 hn0 sm0 ak0 hd0 br0 dp0 de0) (As := [.int x2, .int 1, .int 8]) (rest := []) [0, 1, 2] hCF (okX1_in l hq3) (va_cwS 3 hts gX1_open_X1_in rfl rfl rfl ydX1_in ⟨Nat.le_of_ble_eq_true rfl, Nat.le_of_ble_eq_true rfl⟩) hK hP hD hS hA rfl rfl rfl hl.1 rfl (Nat.le_of_ble_eq_true rfl) dX1_open_11 ⟨Nat.zero_le _, Nat.zero_le _⟩ (fun H locs hP hD hS => ?_)
    have hP : va_P (dC, dI) vwCl (w1 o0 o1 o2 cA cB zs0 ns0 hn0 sm0 ak0 hd0 br0 dp0 de0) H := hP
    have hD : va_D A (w1 o0 o1 o2 cA cB zs0 ns0 hn0 sm0 ak0 hd0 br0 dp0 de0) := hD
    refine lv_if_ne (tgt := 20) hx hb dX1_open_14 (by decide) (fun c4 => ?_) (fun c4 => ?_)
    · have hf := (if_neg c4).symm.trans hf
      refine lv_aload_n hx hb dX1_open_20 rfl (lv_at hl 0 rfl) ?_
      refine va_get (D := (dC, dI)) (ci := 1) (v := .ref o1) (C := RX1) (T := TX1) (N := 9) hx hb hts hin0 hown hK hP 0 rfl rfl 0 (by decide) hfl9 (fun _ h9 => h9) rfl dX1_open_21 ?_
      refine lv_iload_n hx hb dX1_open_24 rfl (lv_at hl 1 rfl) ?_
      obtain ⟨hi5, hf⟩ := og_no hf
      refine va_iald hx hb hK hP 1 0 rfl rfl hi5 dX1_open_25 ?_
      refine lv_if_le (tgt := 31) hx hb dX1_open_26 (by decide) (fun c6 => ?_) (fun c6 => ?_)
      · have hf := (if_pos c6).symm.trans hf
        refine lv_aload_n hx hb dX1_open_31 rfl (lv_at hl 0 rfl) ?_
        refine va_get (D := (dC, dI)) (ci := 1) (v := .ref o1) (C := RX1) (T := TX1) (N := 9) hx hb hts hin0 hown hK hP 0 rfl rfl 0 (by decide) hfl9 (fun _ h9 => h9) rfl dX1_open_32 ?_
        refine lv_iload_n hx hb dX1_open_35 rfl (lv_at hl 1 rfl) ?_
        refine lv_iload_n hx hb dX1_open_36 rfl (lv_at hl 2 rfl) ?_
        obtain ⟨hi7, hf⟩ := og_no hf
        refine va_iast hx hb hK hP hD hS 1 0 rfl rfl hi7 dX1_open_37 (fun H locs hP hD hS => ?_)
        have hP : va_P (dC, dI) vwCl (w1 o0 o1 o2 cA cB (upd zs0 x1.toNatClampNeg x2) ns0 hn0 sm0 ak0 hd0 br0 dp0 de0) H := hP
        have hD : va_D A (w1 o0 o1 o2 cA cB (upd zs0 x1.toNatClampNeg x2) ns0 hn0 sm0 ak0 hd0 br0 dp0 de0) := hD
        refine lv_iconst (v := 0) hx hb dX1_open_38 (by decide) ?_
        refine lv_istore_n (lv' := [(3, .int 0), (0, .ref o0), (1, .int x1), (2, .int x2)]) hx hb dX1_open_39 rfl hl (by decide) rfl (fun ls hl => ?_)
        exact loop40 9 _ _ _ _ _ _ _ _ _ _ _ _ _ _ _ hf hP hD hS (lv_sub hl [1, 2, 3, 0] rfl)
      · have hf := (if_neg c6).symm.trans hf
        refine lv_iconst (v := 0) hx hb dX1_open_29 (by decide) ?_
        obtain ⟨hv, hu⟩ := os_pair hf
        subst hu
        exact W.iret (v := 0) hx hb hr (fun t ht hW => k_endi hv hP hK hD hS ht hW) hS.2.2 dX1_open_30
    · have hf := (if_pos c4).symm.trans hf
      refine lv_bipush (v := (-2)) hx hb dX1_open_17 (by decide) ?_
      obtain ⟨hv, hu⟩ := os_pair hf
      subst hu
      exact W.iret (v := (-2)) hx hb hr (fun t ht hW => k_endi hv hP hK hD hS ht hW) hS.2.2 dX1_open_19
set_option maxHeartbeats 4000000 in
set_option maxRecDepth 100000 in
theorem okX1_close (l : Launch) {dC : Nat → ClassId} {dI : Nat → Nat → Nat} {o0 o1 o2 : Nat} {cA cB : ClassId} {sz : Nat} {x1 : Int32} {zs0 ns0 : Nat → Int32} {hn0 : Int32} {sm0 ak0 hd0 br0 : Int64} {dp0 de0 : Int32} {r : Int32} {st2 : S1} (hf : fX1_close x1 zs0 ns0 hn0 sm0 ak0 hd0 br0 dp0 de0 = some (r, st2)) : kMi l yX1_close wsX1_close ({ frames := 2, cells := 0, slots := 0, locals := 42 }) (dC, dI) vwCl [(cA, .int), (cB, .int)] (w1 o0 o1 o2 cA cB zs0 ns0 hn0 sm0 ak0 hd0 br0 dp0 de0) (w1t o0 o1 o2 cA cB st2) [.ref o0, .int x1] sz r := by
  rw [fX1_close] at hf
  refine Met.ofW (cc := cX1_close) (maxL := 3) (ret := (some .int)) (by decide) rfl ?_
  intro p e s m args below meth c s₁ B hml hv
  obtain ⟨rfl, hsz, hP, hK, hD0⟩ := hv
  have hx := B.exec
  have hb := B.bytes
  have hr := B.returns
  have hts := atoms_spec (ws := wsX1_close) B.pre
  have hown : s.vm.findClass RX1 = some m.cls := findClass_of_methodNamed B.named
  have hlocks := B.notSynchronized
  subst hsz
  have hD := hD0.self (sz := s.heap.size)
  generalize hAe : va_A (w1 o0 o1 o2 cA cB zs0 ns0 hn0 sm0 ak0 hd0 br0 dp0 de0) s.heap.size = A at hD ⊢
  have hA : ∀ q : Nat, s.heap.size ≤ q → A q := fun q h => by rw [← hAe]; exact Or.inr h
  have hS : va_S A s.heap s.heap [] := va_S.rf
  have hin0 : ∀ w ∈ wsX10, w ∈ wsX1_close := fun w h => List.mem_cons_of_mem _ (List.mem_append_right _ h)
  have hfl9 := hts (.fieldLink RX1 9 "CountRoomModel" "sizes" "[I") (by decide +kernel)
  have hCF : CallFix p m c cX1_close 3 s _ wsX1_close RX1 := ⟨hx, hb, hml, hown, hts⟩
  have hl := lv_entry ([.ref o0, .int x1]) (n := 3) (Nat.le_of_ble_eq_true rfl)
  rw [lg_entry_eq]
  generalize (lg_sl ([.ref o0, .int x1]) ++ List.replicate (3 - (lg_sl ([.ref o0, .int x1])).length) Slot.unset).toArray = ls at hl ⊢
  have hl : lv_has ls 3 [(0, .ref o0), (1, .int x1)] := hl
  refine lv_iload_n hx hb dX1_close_0 rfl (lv_at hl 1 rfl) ?_
  obtain ⟨r1, hq1, hf⟩ := ob_some hf
  try dsimp only at hf
  refine ks_i (wr := w1 o0 o1 o2 cA cB zs0 ns0 hn0 sm0 ak0 hd0 br0 dp0 de0) (As := [.int x1]) (rest := []) [0, 1, 2] hCF (okX1_isDesk l hq1) (va_cwS 1 hts gX1_close_X1_isDesk rfl rfl rfl ydX1_isDesk ⟨Nat.le_of_ble_eq_true rfl, Nat.le_of_ble_eq_true rfl⟩) hK hP hD hS hA rfl rfl rfl hl.1 rfl (Nat.le_of_ble_eq_true rfl) dX1_close_1 ⟨Nat.zero_le _, Nat.zero_le _⟩ (fun H locs hP hD hS => ?_)
  have hP : va_P (dC, dI) vwCl (w1 o0 o1 o2 cA cB zs0 ns0 hn0 sm0 ak0 hd0 br0 dp0 de0) H := hP
  have hD : va_D A (w1 o0 o1 o2 cA cB zs0 ns0 hn0 sm0 ak0 hd0 br0 dp0 de0) := hD
  refine lv_if_ne (tgt := 10) hx hb dX1_close_4 (by decide) (fun c2 => ?_) (fun c2 => ?_)
  · have hf := (if_neg c2).symm.trans hf
    refine lv_aload_n hx hb dX1_close_10 rfl (lv_at hl 0 rfl) ?_
    refine va_get (D := (dC, dI)) (ci := 1) (v := .ref o1) (C := RX1) (T := TX1) (N := 9) hx hb hts hin0 hown hK hP 0 rfl rfl 0 (by decide) hfl9 (fun _ h9 => h9) rfl dX1_close_11 ?_
    refine lv_iload_n hx hb dX1_close_14 rfl (lv_at hl 1 rfl) ?_
    obtain ⟨hi3, hf⟩ := og_no hf
    refine va_iald hx hb hK hP 1 0 rfl rfl hi3 dX1_close_15 ?_
    refine lv_if_le (tgt := 23) hx hb dX1_close_16 (by decide) (fun c4 => ?_) (fun c4 => ?_)
    · have hf := (if_pos c4).symm.trans hf
      refine lv_iconst (v := 0) hx hb dX1_close_23 (by decide) ?_
      refine lv_istore_n (lv' := [(2, .int 0), (0, .ref o0), (1, .int x1)]) hx hb dX1_close_24 rfl hl (by decide) rfl (fun ls hl => ?_)
      refine lv_aload_n hx hb dX1_close_25 rfl (lv_at hl 1 rfl) ?_
      refine va_get (D := (dC, dI)) (ci := 1) (v := .ref o1) (C := RX1) (T := TX1) (N := 9) hx hb hts hin0 hown hK hP 0 rfl rfl 0 (by decide) hfl9 (fun _ h9 => h9) rfl dX1_close_26 ?_
      refine lv_iload_n hx hb dX1_close_29 rfl (lv_at hl 2 rfl) ?_
      refine lv_iconst (v := 0) hx hb dX1_close_30 (by decide) ?_
      obtain ⟨hi5, hf⟩ := og_no hf
      refine va_iast hx hb hK hP hD hS 1 0 rfl rfl hi5 dX1_close_31 (fun H locs hP hD hS => ?_)
      have hP : va_P (dC, dI) vwCl (w1 o0 o1 o2 cA cB (upd zs0 x1.toNatClampNeg 0) ns0 hn0 sm0 ak0 hd0 br0 dp0 de0) H := hP
      have hD : va_D A (w1 o0 o1 o2 cA cB (upd zs0 x1.toNatClampNeg 0) ns0 hn0 sm0 ak0 hd0 br0 dp0 de0) := hD
      refine lv_iload_n hx hb dX1_close_32 rfl (lv_at hl 0 rfl) ?_
      obtain ⟨hv, hu⟩ := os_pair hf
      subst hu
      exact W.iret (v := 0) hx hb hr (fun t ht hW => k_endi hv hP hK hD hS ht hW) hS.2.2 dX1_close_33
    · have hf := (if_neg c4).symm.trans hf
      refine lv_iconst (v := 1) hx hb dX1_close_19 (by decide) ?_
      refine lv_goto (tgt := 24) hx hb dX1_close_20 (by decide) ?_
      refine lv_istore_n (lv' := [(2, .int 1), (0, .ref o0), (1, .int x1)]) hx hb dX1_close_24 rfl hl (by decide) rfl (fun ls hl => ?_)
      refine lv_aload_n hx hb dX1_close_25 rfl (lv_at hl 1 rfl) ?_
      refine va_get (D := (dC, dI)) (ci := 1) (v := .ref o1) (C := RX1) (T := TX1) (N := 9) hx hb hts hin0 hown hK hP 0 rfl rfl 0 (by decide) hfl9 (fun _ h9 => h9) rfl dX1_close_26 ?_
      refine lv_iload_n hx hb dX1_close_29 rfl (lv_at hl 2 rfl) ?_
      refine lv_iconst (v := 0) hx hb dX1_close_30 (by decide) ?_
      obtain ⟨hi6, hf⟩ := og_no hf
      refine va_iast hx hb hK hP hD hS 1 0 rfl rfl hi6 dX1_close_31 (fun H locs hP hD hS => ?_)
      have hP : va_P (dC, dI) vwCl (w1 o0 o1 o2 cA cB (upd zs0 x1.toNatClampNeg 0) ns0 hn0 sm0 ak0 hd0 br0 dp0 de0) H := hP
      have hD : va_D A (w1 o0 o1 o2 cA cB (upd zs0 x1.toNatClampNeg 0) ns0 hn0 sm0 ak0 hd0 br0 dp0 de0) := hD
      refine lv_iload_n hx hb dX1_close_32 rfl (lv_at hl 0 rfl) ?_
      obtain ⟨hv, hu⟩ := os_pair hf
      subst hu
      exact W.iret (v := 1) hx hb hr (fun t ht hW => k_endi hv hP hK hD hS ht hW) hS.2.2 dX1_close_33
  · have hf := (if_pos c2).symm.trans hf
    refine lv_bipush (v := (-2)) hx hb dX1_close_7 (by decide) ?_
    obtain ⟨hv, hu⟩ := os_pair hf
    subst hu
    exact W.iret (v := (-2)) hx hb hr (fun t ht hW => k_endi hv hP hK hD hS ht hW) hS.2.2 dX1_close_9
set_option maxHeartbeats 4000000 in
set_option maxRecDepth 100000 in
theorem okX1_write (l : Launch) {dC : Nat → ClassId} {dI : Nat → Nat → Nat} {o0 o1 o2 : Nat} {cA cB : ClassId} {sz : Nat} {x1 x2 x3 : Int32} {zs0 ns0 : Nat → Int32} {hn0 : Int32} {sm0 ak0 hd0 br0 : Int64} {dp0 de0 : Int32} {r : Int32} {st2 : S1} (hf : fX1_write x1 x2 x3 zs0 ns0 hn0 sm0 ak0 hd0 br0 dp0 de0 = some (r, st2)) : kMi l yX1_write wsX1_write ({ frames := 2, cells := 0, slots := 0, locals := 44 }) (dC, dI) vwCl [(cA, .int), (cB, .int)] (w1 o0 o1 o2 cA cB zs0 ns0 hn0 sm0 ak0 hd0 br0 dp0 de0) (w1t o0 o1 o2 cA cB st2) [.ref o0, .int x1, .int x2, .int x3] sz r := by
  rw [fX1_write] at hf
  refine Met.ofW (cc := cX1_write) (maxL := 4) (ret := (some .int)) (by decide) rfl ?_
  intro p e s m args below meth c s₁ B hml hv
  obtain ⟨rfl, hsz, hP, hK, hD0⟩ := hv
  have hx := B.exec
  have hb := B.bytes
  have hr := B.returns
  have hts := atoms_spec (ws := wsX1_write) B.pre
  have hown : s.vm.findClass RX1 = some m.cls := findClass_of_methodNamed B.named
  have hlocks := B.notSynchronized
  subst hsz
  have hD := hD0.self (sz := s.heap.size)
  generalize hAe : va_A (w1 o0 o1 o2 cA cB zs0 ns0 hn0 sm0 ak0 hd0 br0 dp0 de0) s.heap.size = A at hD ⊢
  have hA : ∀ q : Nat, s.heap.size ≤ q → A q := fun q h => by rw [← hAe]; exact Or.inr h
  have hS : va_S A s.heap s.heap [] := va_S.rf
  have hin0 : ∀ w ∈ wsX10, w ∈ wsX1_write := fun w h => List.mem_cons_of_mem _ (List.mem_append_right _ h)
  have hfl13 := hts (.fieldLink RX1 13 "CountRoomModel" "numbers" "[I") (by decide +kernel)
  have hCF : CallFix p m c cX1_write 4 s _ wsX1_write RX1 := ⟨hx, hb, hml, hown, hts⟩
  have hl := lv_entry ([.ref o0, .int x1, .int x2, .int x3]) (n := 4) (Nat.le_of_ble_eq_true rfl)
  rw [lg_entry_eq]
  generalize (lg_sl ([.ref o0, .int x1, .int x2, .int x3]) ++ List.replicate (4 - (lg_sl ([.ref o0, .int x1, .int x2, .int x3])).length) Slot.unset).toArray = ls at hl ⊢
  have hl : lv_has ls 4 [(0, .ref o0), (1, .int x1), (2, .int x2), (3, .int x3)] := hl
  refine lv_iload_n hx hb dX1_write_0 rfl (lv_at hl 1 rfl) ?_
  obtain ⟨r1, hq1, hf⟩ := ob_some hf
  try dsimp only at hf
  refine ks_i (wr := w1 o0 o1 o2 cA cB zs0 ns0 hn0 sm0 ak0 hd0 br0 dp0 de0) (As := [.int x1]) (rest := []) [0, 1, 2] hCF (okX1_isDesk l hq1) (va_cwS 1 hts gX1_write_X1_isDesk rfl rfl rfl ydX1_isDesk ⟨Nat.le_of_ble_eq_true rfl, Nat.le_of_ble_eq_true rfl⟩) hK hP hD hS hA rfl rfl rfl hl.1 rfl (Nat.le_of_ble_eq_true rfl) dX1_write_1 ⟨Nat.zero_le _, Nat.zero_le _⟩ (fun H locs hP hD hS => ?_)
  have hP : va_P (dC, dI) vwCl (w1 o0 o1 o2 cA cB zs0 ns0 hn0 sm0 ak0 hd0 br0 dp0 de0) H := hP
  have hD : va_D A (w1 o0 o1 o2 cA cB zs0 ns0 hn0 sm0 ak0 hd0 br0 dp0 de0) := hD
  refine lv_if_ne (tgt := 10) hx hb dX1_write_4 (by decide) (fun c2 => ?_) (fun c2 => ?_)
  · have hf := (if_neg c2).symm.trans hf
    refine lv_aload_n hx hb dX1_write_10 rfl (lv_at hl 0 rfl) ?_
    refine lv_iload_n hx hb dX1_write_11 rfl (lv_at hl 1 rfl) ?_
    obtain ⟨⟨r3, zs3, ns3, hn3, sm3, ak3, hd3, br3, dp3, de3⟩, hq3, hf⟩ := ob_some hf
    try dsimp only at hf
    refine kc_i (wr := []) (As := [.int x1]) (rest := []) [0, 1, 2] [] [0, 1] 1 0 hCF (okX1_holds l hq3) (cwV 1 hts gX1_write_X1_holds rfl rfl rfl ydX1_holds ⟨Nat.le_of_ble_eq_true rfl, Nat.le_of_ble_eq_true rfl⟩) hK hP hD hS hA rfl rfl rfl rfl rfl (fun _ h => by cases h) rfl rfl rfl rfl hl.1 rfl (Nat.le_of_ble_eq_true rfl) dX1_write_12 ⟨Nat.zero_le _, Nat.zero_le _⟩ (fun H locs hP hD hS => ?_)
    have hP : va_P (dC, dI) vwCl (w1 o0 o1 o2 cA cB zs3 ns3 hn3 sm3 ak3 hd3 br3 dp3 de3) H := hP
    have hD : va_D A (w1 o0 o1 o2 cA cB zs3 ns3 hn3 sm3 ak3 hd3 br3 dp3 de3) := hD
    refine lv_if_ne (tgt := 21) hx hb dX1_write_15 (by decide) (fun c4 => ?_) (fun c4 => ?_)
    · have hf := (if_neg c4).symm.trans hf
      refine lv_aload_n hx hb dX1_write_21 rfl (lv_at hl 0 rfl) ?_
      refine lv_iload_n hx hb dX1_write_22 rfl (lv_at hl 1 rfl) ?_
      refine lv_iload_n hx hb dX1_write_23 rfl (lv_at hl 2 rfl) ?_
      obtain ⟨r5, hq5, hf⟩ := ob_some hf
      try dsimp only at hf
      refine kc_i (wr := []) (As := [.int x1, .int x2]) (rest := []) [0, 1, 2] [] [0, 1] 1 0 hCF (okX1_isPlace l hq5) (cwV 2 hts gX1_write_X1_isPlace rfl rfl rfl ydX1_isPlace ⟨Nat.le_of_ble_eq_true rfl, Nat.le_of_ble_eq_true rfl⟩) hK hP hD hS hA rfl rfl rfl rfl rfl (fun _ h => by cases h) rfl rfl rfl rfl hl.1 rfl (Nat.le_of_ble_eq_true rfl) dX1_write_24 ⟨Nat.zero_le _, Nat.zero_le _⟩ (fun H locs hP hD hS => ?_)
      have hP : va_P (dC, dI) vwCl (w1 o0 o1 o2 cA cB zs3 ns3 hn3 sm3 ak3 hd3 br3 dp3 de3) H := hP
      have hD : va_D A (w1 o0 o1 o2 cA cB zs3 ns3 hn3 sm3 ak3 hd3 br3 dp3 de3) := hD
      refine lv_if_ne (tgt := 37) hx hb dX1_write_27 (by decide) (fun c6 => ?_) (fun c6 => ?_)
      · have hf := (if_neg c6).symm.trans hf
        refine lv_aload_n hx hb dX1_write_37 rfl (lv_at hl 0 rfl) ?_
        refine va_get (D := (dC, dI)) (ci := 1) (v := .ref o2) (C := RX1) (T := TX1) (N := 9) hx hb hts hin0 hown hK hP 0 rfl rfl 1 (by decide) hfl13 (fun _ h9 => h9) rfl dX1_write_38 ?_
        refine lv_bipush (v := 8) hx hb dX1_write_41 (by decide) ?_
        refine lv_iload_n hx hb dX1_write_43 rfl (lv_at hl 1 rfl) ?_
        refine lv_imul hx hb dX1_write_44 ?_
        refine lv_iload_n hx hb dX1_write_45 rfl (lv_at hl 2 rfl) ?_
        refine lv_iadd hx hb dX1_write_46 ?_
        refine lv_iload_n hx hb dX1_write_47 rfl (lv_at hl 3 rfl) ?_
        obtain ⟨hi7, hf⟩ := og_no hf
        refine va_iast hx hb hK hP hD hS 2 1 rfl rfl hi7 dX1_write_48 (fun H locs hP hD hS => ?_)
        have hP : va_P (dC, dI) vwCl (w1 o0 o1 o2 cA cB zs3 (upd ns3 ((8 * x1) + x2).toNatClampNeg x3) hn3 sm3 ak3 hd3 br3 dp3 de3) H := hP
        have hD : va_D A (w1 o0 o1 o2 cA cB zs3 (upd ns3 ((8 * x1) + x2).toNatClampNeg x3) hn3 sm3 ak3 hd3 br3 dp3 de3) := hD
        refine lv_aload_n hx hb dX1_write_49 rfl (lv_at hl 0 rfl) ?_
        refine lv_iconst (v := 1) hx hb dX1_write_50 (by decide) ?_
        refine lv_iconst (v := 0) hx hb dX1_write_51 (by decide) ?_
        obtain ⟨⟨r8, zs8, ns8, hn8, sm8, ak8, hd8, br8, dp8, de8⟩, hq8, hf⟩ := ob_some hf
        try dsimp only at hf
        refine kc_i (wr := []) (As := [.int 1, .int 0]) (rest := []) [0, 1, 2] [] [0, 1] 1 0 hCF (okX1_ends l hq8) (cwV 2 hts gX1_write_X1_ends rfl rfl rfl ydX1_ends ⟨Nat.le_of_ble_eq_true rfl, Nat.le_of_ble_eq_true rfl⟩) hK hP hD hS hA rfl rfl rfl rfl rfl (fun _ h => by cases h) rfl rfl rfl rfl hl.1 rfl (Nat.le_of_ble_eq_true rfl) dX1_write_52 ⟨Nat.zero_le _, Nat.zero_le _⟩ (fun H locs hP hD hS => ?_)
        have hP : va_P (dC, dI) vwCl (w1 o0 o1 o2 cA cB zs8 ns8 hn8 sm8 ak8 hd8 br8 dp8 de8) H := hP
        have hD : va_D A (w1 o0 o1 o2 cA cB zs8 ns8 hn8 sm8 ak8 hd8 br8 dp8 de8) := hD
        refine lv_iconst (v := 1) hx hb dX1_write_55 (by decide) ?_
        refine lv_iadd hx hb dX1_write_56 ?_
        obtain ⟨hv, hu⟩ := os_pair hf
        subst hu
        exact W.iret (v := r8 + 1) hx hb hr (fun t ht hW => k_endi hv hP hK hD hS ht hW) hS.2.2 dX1_write_57
      · have hf := (if_pos c6).symm.trans hf
        refine lv_aload_n hx hb dX1_write_30 rfl (lv_at hl 0 rfl) ?_
        refine lv_iconst (v := 1) hx hb dX1_write_31 (by decide) ?_
        refine lv_iconst (v := 2) hx hb dX1_write_32 (by decide) ?_
        obtain ⟨⟨r9, zs9, ns9, hn9, sm9, ak9, hd9, br9, dp9, de9⟩, hq9, hf⟩ := ob_some hf
        try dsimp only at hf
        refine kc_i (wr := []) (As := [.int 1, .int 2]) (rest := []) [0, 1, 2] [] [0, 1] 1 0 hCF (okX1_ends l hq9) (cwV 2 hts gX1_write_X1_ends rfl rfl rfl ydX1_ends ⟨Nat.le_of_ble_eq_true rfl, Nat.le_of_ble_eq_true rfl⟩) hK hP hD hS hA rfl rfl rfl rfl rfl (fun _ h => by cases h) rfl rfl rfl rfl hl.1 rfl (Nat.le_of_ble_eq_true rfl) dX1_write_33 ⟨Nat.zero_le _, Nat.zero_le _⟩ (fun H locs hP hD hS => ?_)
        have hP : va_P (dC, dI) vwCl (w1 o0 o1 o2 cA cB zs9 ns9 hn9 sm9 ak9 hd9 br9 dp9 de9) H := hP
        have hD : va_D A (w1 o0 o1 o2 cA cB zs9 ns9 hn9 sm9 ak9 hd9 br9 dp9 de9) := hD
        obtain ⟨hv, hu⟩ := os_pair hf
        subst hu
        exact W.iret (v := r9) hx hb hr (fun t ht hW => k_endi hv hP hK hD hS ht hW) hS.2.2 dX1_write_36
    · have hf := (if_pos c4).symm.trans hf
      refine lv_bipush (v := (-11)) hx hb dX1_write_18 (by decide) ?_
      obtain ⟨hv, hu⟩ := os_pair hf
      subst hu
      exact W.iret (v := (-11)) hx hb hr (fun t ht hW => k_endi hv hP hK hD hS ht hW) hS.2.2 dX1_write_20
  · have hf := (if_pos c2).symm.trans hf
    refine lv_bipush (v := (-2)) hx hb dX1_write_7 (by decide) ?_
    obtain ⟨hv, hu⟩ := os_pair hf
    subst hu
    exact W.iret (v := (-2)) hx hb hr (fun t ht hW => k_endi hv hP hK hD hS ht hW) hS.2.2 dX1_write_9
