/-! contracts, by program (wip/gen.py) -/
set_option maxHeartbeats 4000000 in
set_option maxRecDepth 100000 in
theorem okX1_share (l : Launch) {dC : Nat → ClassId} {dI : Nat → Nat → Nat} {o0 o1 o2 : Nat} {cA cB : ClassId} {sz : Nat} {x1 x2 x3 : Int32} {zs0 ns0 : Nat → Int32} {hn0 : Int32} {sm0 ak0 hd0 br0 : Int64} {dp0 de0 : Int32} {r : Int32} {st2 : S1} (hf : fX1_share x1 x2 x3 zs0 ns0 hn0 sm0 ak0 hd0 br0 dp0 de0 = some (r, st2)) : kMi l yX1_share wsX1_share ({ frames := 2, cells := 0, slots := 0, locals := 44 }) (dC, dI) vwCl [(cA, .int), (cB, .int)] (w1 o0 o1 o2 cA cB zs0 ns0 hn0 sm0 ak0 hd0 br0 dp0 de0) (w1t o0 o1 o2 cA cB st2) [.ref o0, .int x1, .int x2, .int x3] sz r := by
  rw [fX1_share] at hf
  refine Met.ofW (cc := cX1_share) (maxL := 6) (ret := (some .int)) (by decide) rfl ?_
  intro p e s m args below meth c s₁ B hml hv
  obtain ⟨rfl, hsz, hP, hK, hD0⟩ := hv
  have hx := B.exec
  have hb := B.bytes
  have hr := B.returns
  have hts := atoms_spec (ws := wsX1_share) B.pre
  have hown : s.vm.findClass RX1 = some m.cls := findClass_of_methodNamed B.named
  have hlocks := B.notSynchronized
  subst hsz
  have hD := hD0.self (sz := s.heap.size)
  generalize hAe : va_A (w1 o0 o1 o2 cA cB zs0 ns0 hn0 sm0 ak0 hd0 br0 dp0 de0) s.heap.size = A at hD ⊢
  have hA : ∀ q : Nat, s.heap.size ≤ q → A q := fun q h => by rw [← hAe]; exact Or.inr h
  have hS : va_S A s.heap s.heap [] := va_S.rf
  have hin0 : ∀ w ∈ wsX10, w ∈ wsX1_share := fun w h => List.mem_cons_of_mem _ (List.mem_append_right _ h)
  have hfl9 := hts (.fieldLink RX1 9 "CountRoomModel" "sizes" "[I") (by decide +kernel)
  have hfl13 := hts (.fieldLink RX1 13 "CountRoomModel" "numbers" "[I") (by decide +kernel)
  have hCF : CallFix p m c cX1_share 6 s _ wsX1_share RX1 := ⟨hx, hb, hml, hown, hts⟩
  have loop62 : ∀ (k : Nat) (y1 y2 y3 y4 : Int32) (zs ns : Nat → Int32) (hn : Int32) (sm ak hd br : Int64) (dp de : Int32) (H : Heap) (locs : List Loc) (ls : Array Slot), fX1_share_62 k y1 y2 y3 y4 zs ns hn sm ak hd br dp de = some (r, st2) → va_P (dC, dI) vwCl (w1 o0 o1 o2 cA cB zs ns hn sm ak hd br dp de) H → va_D A (w1 o0 o1 o2 cA cB zs ns hn sm ak hd br dp de) → va_S A s.heap H locs → lv_has ls 6 [(0, .ref o0), (1, .int y1), (2, .int y2), (3, .int y3), (4, .int y4)] → W p l e (headSpec wsX1_share ({ frames := 2, cells := 0, slots := 0, locals := 44 })).room s m ([.ref o0, .int x1, .int x2, .int x3] : List Value).toArray below meth c H locs 0 0 (MQ below (va_Qi (fun (r2 : Int32) (_ : Unit) => r2 = r) (k_out (dC, dI) vwCl [(cA, .int), (cB, .int)] A (w1t o0 o1 o2 cA cB st2)) A) ([.ref o0, .int x1, .int x2, .int x3] : List Value).toArray s 0 0 A) (F0 m 62 ls []) := by
    intro k
    induction k with
    | zero => intro y1 y2 y3 y4 zs ns hn sm ak hd br dp de H locs ls hf; cases hf
    | succ k ih =>
      intro y1 y2 y3 y4 zs ns hn sm ak hd br dp de H locs ls hf hP hD hS hl
      rw [fX1_share_62] at hf
      refine lv_iload hx hb dX1_share_62 (lv_at hl 4 rfl) ?_
      refine lv_aload_n hx hb dX1_share_64 rfl (lv_at hl 0 rfl) ?_
      refine va_get (D := (dC, dI)) (ci := 1) (v := .ref o1) (C := RX1) (T := TX1) (N := 9) hx hb hts hin0 hown hK hP 0 rfl rfl 0 (by decide) hfl9 (fun _ h9 => h9) rfl dX1_share_65 ?_
      refine lv_iload_n hx hb dX1_share_68 rfl (lv_at hl 1 rfl) ?_
      obtain ⟨hi11, hf⟩ := og_no hf
      refine va_iald hx hb hK hP 1 0 rfl rfl hi11 dX1_share_69 ?_
      refine lv_icmp_ge (tgt := 133) hx hb dX1_share_70 (by decide) (fun c12 => ?_) (fun c12 => ?_)
      · have hf := (if_pos c12).symm.trans hf
        refine lv_aload_n hx hb dX1_share_133 rfl (lv_at hl 0 rfl) ?_
        refine lv_iconst (v := 2) hx hb dX1_share_134 (by decide) ?_
        refine lv_iconst (v := 0) hx hb dX1_share_135 (by decide) ?_
        obtain ⟨⟨r13, zs13, ns13, hn13, sm13, ak13, hd13, br13, dp13, de13⟩, hq13, hf⟩ := ob_some hf
        try dsimp only at hf
        refine kc_i (wr := []) (As := [.int 2, .int 0]) (rest := []) [0, 1, 2] [] [0, 1] 1 0 hCF (okX1_ends l hq13) (cwV 2 hts gX1_share_X1_ends rfl rfl rfl ydX1_ends ⟨Nat.le_of_ble_eq_true rfl, Nat.le_of_ble_eq_true rfl⟩) hK hP hD hS hA rfl rfl rfl rfl rfl (fun _ h => by cases h) rfl rfl rfl rfl hl.1 rfl (Nat.le_of_ble_eq_true rfl) dX1_share_136 ⟨Nat.zero_le _, Nat.zero_le _⟩ (fun H locs hP hD hS => ?_)
        have hP : va_P (dC, dI) vwCl (w1 o0 o1 o2 cA cB zs13 ns13 hn13 sm13 ak13 hd13 br13 dp13 de13) H := hP
        have hD : va_D A (w1 o0 o1 o2 cA cB zs13 ns13 hn13 sm13 ak13 hd13 br13 dp13 de13) := hD
        refine lv_aload_n hx hb dX1_share_139 rfl (lv_at hl 0 rfl) ?_
        refine va_get (D := (dC, dI)) (ci := 1) (v := .ref o1) (C := RX1) (T := TX1) (N := 9) hx hb hts hin0 hown hK hP 0 rfl rfl 0 (by decide) hfl9 (fun _ h9 => h9) rfl dX1_share_140 ?_
        refine lv_iload_n hx hb dX1_share_143 rfl (lv_at hl 1 rfl) ?_
        obtain ⟨hi14, hf⟩ := og_no hf
        refine va_iald hx hb hK hP 1 0 rfl rfl hi14 dX1_share_144 ?_
        refine lv_iadd hx hb dX1_share_145 ?_
        obtain ⟨hv, hu⟩ := os_pair hf
        subst hu
        exact W.iret (v := r13 + (zs13 y1.toNatClampNeg)) hx hb hr (fun t ht hW => k_endi hv hP hK hD hS ht hW) hS.2.2 dX1_share_146
      · have hf := (if_neg c12).symm.trans hf
        refine lv_aload_n hx hb dX1_share_73 rfl (lv_at hl 0 rfl) ?_
        refine va_get (D := (dC, dI)) (ci := 1) (v := .ref o2) (C := RX1) (T := TX1) (N := 9) hx hb hts hin0 hown hK hP 0 rfl rfl 1 (by decide) hfl13 (fun _ h9 => h9) rfl dX1_share_74 ?_
        refine lv_bipush (v := 8) hx hb dX1_share_77 (by decide) ?_
        refine lv_iload_n hx hb dX1_share_79 rfl (lv_at hl 2 rfl) ?_
        refine lv_imul hx hb dX1_share_80 ?_
        refine lv_iload_n hx hb dX1_share_81 rfl (lv_at hl 3 rfl) ?_
        refine lv_iadd hx hb dX1_share_82 ?_
        obtain ⟨hi15, hf⟩ := og_no hf
        refine va_iald hx hb hK hP 2 1 rfl rfl hi15 dX1_share_83 ?_
        refine lv_istore (lv' := [(5, .int (ns ((8 * y2) + y3).toNatClampNeg)), (0, .ref o0), (1, .int y1), (2, .int y2), (3, .int y3), (4, .int y4)]) hx hb dX1_share_84 hl (by decide) rfl (fun ls hl => ?_)
        refine lv_iload hx hb dX1_share_86 (lv_at hl 0 rfl) ?_
        refine lv_if_ne (tgt := 98) hx hb dX1_share_88 (by decide) (fun c16 => ?_) (fun c16 => ?_)
        · have hf := (if_neg c16).symm.trans hf
          refine lv_aload_n hx hb dX1_share_98 rfl (lv_at hl 1 rfl) ?_
          refine va_get (D := (dC, dI)) (ci := 1) (v := .ref o2) (C := RX1) (T := TX1) (N := 9) hx hb hts hin0 hown hK hP 0 rfl rfl 1 (by decide) hfl13 (fun _ h9 => h9) rfl dX1_share_99 ?_
          refine lv_bipush (v := 8) hx hb dX1_share_102 (by decide) ?_
          refine lv_iload_n hx hb dX1_share_104 rfl (lv_at hl 2 rfl) ?_
          refine lv_imul hx hb dX1_share_105 ?_
          refine lv_iload hx hb dX1_share_106 (lv_at hl 5 rfl) ?_
          refine lv_iadd hx hb dX1_share_108 ?_
          refine lv_aload_n hx hb dX1_share_109 rfl (lv_at hl 1 rfl) ?_
          refine va_get (D := (dC, dI)) (ci := 1) (v := .ref o2) (C := RX1) (T := TX1) (N := 9) hx hb hts hin0 hown hK hP 0 rfl rfl 1 (by decide) hfl13 (fun _ h9 => h9) rfl dX1_share_110 ?_
          refine lv_bipush (v := 8) hx hb dX1_share_113 (by decide) ?_
          refine lv_iload_n hx hb dX1_share_115 rfl (lv_at hl 2 rfl) ?_
          refine lv_imul hx hb dX1_share_116 ?_
          refine lv_iload hx hb dX1_share_117 (lv_at hl 5 rfl) ?_
          refine lv_iadd hx hb dX1_share_119 ?_
          obtain ⟨hi17, hf⟩ := og_no hf
          refine va_iald hx hb hK hP 2 1 rfl rfl hi17 dX1_share_120 ?_
          refine lv_iload hx hb dX1_share_121 (lv_at hl 0 rfl) ?_
          obtain ⟨r18, hq18, hf⟩ := ob_some hf
          try dsimp only at hf
          refine ks_i (wr := w1 o0 o1 o2 cA cB zs ns hn sm ak hd br dp de) (As := [.int (ns ((8 * y1) + y4).toNatClampNeg), .int (ns ((8 * y2) + y3).toNatClampNeg)]) (rest := [.int ((8 * y1) + y4), .ref o2]) [0, 1, 2] hCF (okX1_quotient l hq18) (va_cwS 2 hts gX1_share_X1_quotient rfl rfl rfl ydX1_quotient ⟨Nat.le_of_ble_eq_true rfl, Nat.le_of_ble_eq_true rfl⟩) hK hP hD hS hA rfl rfl rfl hl.1 rfl (Nat.le_of_ble_eq_true rfl) dX1_share_123 ⟨Nat.zero_le _, Nat.zero_le _⟩ (fun H locs hP hD hS => ?_)
          have hP : va_P (dC, dI) vwCl (w1 o0 o1 o2 cA cB zs ns hn sm ak hd br dp de) H := hP
          have hD : va_D A (w1 o0 o1 o2 cA cB zs ns hn sm ak hd br dp de) := hD
          obtain ⟨hi19, hf⟩ := og_no hf
          refine va_iast hx hb hK hP hD hS 2 1 rfl rfl hi19 dX1_share_126 (fun H locs hP hD hS => ?_)
          have hP : va_P (dC, dI) vwCl (w1 o0 o1 o2 cA cB zs (upd ns ((8 * y1) + y4).toNatClampNeg r18) hn sm ak hd br dp de) H := hP
          have hD : va_D A (w1 o0 o1 o2 cA cB zs (upd ns ((8 * y1) + y4).toNatClampNeg r18) hn sm ak hd br dp de) := hD
          refine lv_iinc (v := y4 + 1) (lv' := [(4, .int (y4 + 1)), (5, .int (ns ((8 * y2) + y3).toNatClampNeg)), (0, .ref o0), (1, .int y1), (2, .int y2), (3, .int y3)]) hx hb dX1_share_127 hl (k := 5) rfl (congrArg (fun t => y4 + t) (by decide)) (by decide) rfl (fun ls hl => ?_)
          refine lv_goto (tgt := 62) hx hb dX1_share_130 (by decide) ?_
          exact ih _ _ _ _ _ _ _ _ _ _ _ _ _ _ _ _ hf hP hD hS (lv_sub hl [2, 3, 4, 5, 0] rfl)
        · have hf := (if_pos c16).symm.trans hf
          refine lv_aload_n hx hb dX1_share_91 rfl (lv_at hl 1 rfl) ?_
          refine lv_iconst (v := 2) hx hb dX1_share_92 (by decide) ?_
          refine lv_iconst (v := 3) hx hb dX1_share_93 (by decide) ?_
          obtain ⟨⟨r20, zs20, ns20, hn20, sm20, ak20, hd20, br20, dp20, de20⟩, hq20, hf⟩ := ob_some hf
          try dsimp only at hf
          refine kc_i (wr := []) (As := [.int 2, .int 3]) (rest := []) [0, 1, 2] [] [0, 1] 1 0 hCF (okX1_ends l hq20) (cwV 2 hts gX1_share_X1_ends rfl rfl rfl ydX1_ends ⟨Nat.le_of_ble_eq_true rfl, Nat.le_of_ble_eq_true rfl⟩) hK hP hD hS hA rfl rfl rfl rfl rfl (fun _ h => by cases h) rfl rfl rfl rfl hl.1 rfl (Nat.le_of_ble_eq_true rfl) dX1_share_94 ⟨Nat.zero_le _, Nat.zero_le _⟩ (fun H locs hP hD hS => ?_)
          have hP : va_P (dC, dI) vwCl (w1 o0 o1 o2 cA cB zs20 ns20 hn20 sm20 ak20 hd20 br20 dp20 de20) H := hP
          have hD : va_D A (w1 o0 o1 o2 cA cB zs20 ns20 hn20 sm20 ak20 hd20 br20 dp20 de20) := hD
          obtain ⟨hv, hu⟩ := os_pair hf
          subst hu
          exact W.iret (v := r20) hx hb hr (fun t ht hW => k_endi hv hP hK hD hS ht hW) hS.2.2 dX1_share_97
  have hl := lv_entry ([.ref o0, .int x1, .int x2, .int x3]) (n := 6) (Nat.le_of_ble_eq_true rfl)
  rw [lg_entry_eq]
  generalize (lg_sl ([.ref o0, .int x1, .int x2, .int x3]) ++ List.replicate (6 - (lg_sl ([.ref o0, .int x1, .int x2, .int x3])).length) Slot.unset).toArray = ls at hl ⊢
  have hl : lv_has ls 6 [(0, .ref o0), (1, .int x1), (2, .int x2), (3, .int x3)] := hl
  refine lv_iload_n hx hb dX1_share_0 rfl (lv_at hl 1 rfl) ?_
  obtain ⟨r1, hq1, hf⟩ := ob_some hf
  try dsimp only at hf
  refine ks_i (wr := w1 o0 o1 o2 cA cB zs0 ns0 hn0 sm0 ak0 hd0 br0 dp0 de0) (As := [.int x1]) (rest := []) [0, 1, 2] hCF (okX1_isDesk l hq1) (va_cwS 1 hts gX1_share_X1_isDesk rfl rfl rfl ydX1_isDesk ⟨Nat.le_of_ble_eq_true rfl, Nat.le_of_ble_eq_true rfl⟩) hK hP hD hS hA rfl rfl rfl hl.1 rfl (Nat.le_of_ble_eq_true rfl) dX1_share_1 ⟨Nat.zero_le _, Nat.zero_le _⟩ (fun H locs hP hD hS => ?_)
  have hP : va_P (dC, dI) vwCl (w1 o0 o1 o2 cA cB zs0 ns0 hn0 sm0 ak0 hd0 br0 dp0 de0) H := hP
  have hD : va_D A (w1 o0 o1 o2 cA cB zs0 ns0 hn0 sm0 ak0 hd0 br0 dp0 de0) := hD
  refine lv_if_eq (tgt := 14) hx hb dX1_share_4 (by decide) (fun c2 => ?_) (fun c2 => ?_)
  · have hf := (if_pos c2).symm.trans hf
    refine lv_bipush (v := (-2)) hx hb dX1_share_14 (by decide) ?_
    obtain ⟨hv, hu⟩ := os_pair hf
    subst hu
    exact W.iret (v := (-2)) hx hb hr (fun t ht hW => k_endi hv hP hK hD hS ht hW) hS.2.2 dX1_share_16
  · have hf := (if_neg c2).symm.trans hf
    refine lv_iload_n hx hb dX1_share_7 rfl (lv_at hl 2 rfl) ?_
    obtain ⟨r3, hq3, hf⟩ := ob_some hf
    try dsimp only at hf
    refine ks_i (wr := w1 o0 o1 o2 cA cB zs0 ns0 hn0 sm0 ak0 hd0 br0 dp0 de0) (As := [.int x2]) (rest := []) [0, 1, 2] hCF (okX1_isDesk l hq3) (va_cwS 1 hts gX1_share_X1_isDesk rfl rfl rfl ydX1_isDesk ⟨Nat.le_of_ble_eq_true rfl, Nat.le_of_ble_eq_true rfl⟩) hK hP hD hS hA rfl rfl rfl hl.1 rfl (Nat.le_of_ble_eq_true rfl) dX1_share_8 ⟨Nat.zero_le _, Nat.zero_le _⟩ (fun H locs hP hD hS => ?_)
    have hP : va_P (dC, dI) vwCl (w1 o0 o1 o2 cA cB zs0 ns0 hn0 sm0 ak0 hd0 br0 dp0 de0) H := hP
    have hD : va_D A (w1 o0 o1 o2 cA cB zs0 ns0 hn0 sm0 ak0 hd0 br0 dp0 de0) := hD
    refine lv_if_ne (tgt := 17) hx hb dX1_share_11 (by decide) (fun c4 => ?_) (fun c4 => ?_)
    · have hf := (if_neg c4).symm.trans hf
      refine lv_aload_n hx hb dX1_share_17 rfl (lv_at hl 0 rfl) ?_
      refine lv_iload_n hx hb dX1_share_18 rfl (lv_at hl 1 rfl) ?_
      obtain ⟨⟨r5, zs5, ns5, hn5, sm5, ak5, hd5, br5, dp5, de5⟩, hq5, hf⟩ := ob_some hf
      try dsimp only at hf
      refine kc_i (wr := []) (As := [.int x1]) (rest := []) [0, 1, 2] [] [0, 1] 1 0 hCF (okX1_holds l hq5) (cwV 1 hts gX1_share_X1_holds rfl rfl rfl ydX1_holds ⟨Nat.le_of_ble_eq_true rfl, Nat.le_of_ble_eq_true rfl⟩) hK hP hD hS hA rfl rfl rfl rfl rfl (fun _ h => by cases h) rfl rfl rfl rfl hl.1 rfl (Nat.le_of_ble_eq_true rfl) dX1_share_19 ⟨Nat.zero_le _, Nat.zero_le _⟩ (fun H locs hP hD hS => ?_)
      have hP : va_P (dC, dI) vwCl (w1 o0 o1 o2 cA cB zs5 ns5 hn5 sm5 ak5 hd5 br5 dp5 de5) H := hP
      have hD : va_D A (w1 o0 o1 o2 cA cB zs5 ns5 hn5 sm5 ak5 hd5 br5 dp5 de5) := hD
      refine lv_if_ne (tgt := 28) hx hb dX1_share_22 (by decide) (fun c6 => ?_) (fun c6 => ?_)
      · have hf := (if_neg c6).symm.trans hf
        refine lv_aload_n hx hb dX1_share_28 rfl (lv_at hl 0 rfl) ?_
        refine lv_iload_n hx hb dX1_share_29 rfl (lv_at hl 2 rfl) ?_
        obtain ⟨⟨r7, zs7, ns7, hn7, sm7, ak7, hd7, br7, dp7, de7⟩, hq7, hf⟩ := ob_some hf
        try dsimp only at hf
        refine kc_i (wr := []) (As := [.int x2]) (rest := []) [0, 1, 2] [] [0, 1] 1 0 hCF (okX1_holds l hq7) (cwV 1 hts gX1_share_X1_holds rfl rfl rfl ydX1_holds ⟨Nat.le_of_ble_eq_true rfl, Nat.le_of_ble_eq_true rfl⟩) hK hP hD hS hA rfl rfl rfl rfl rfl (fun _ h => by cases h) rfl rfl rfl rfl hl.1 rfl (Nat.le_of_ble_eq_true rfl) dX1_share_30 ⟨Nat.zero_le _, Nat.zero_le _⟩ (fun H locs hP hD hS => ?_)
        have hP : va_P (dC, dI) vwCl (w1 o0 o1 o2 cA cB zs7 ns7 hn7 sm7 ak7 hd7 br7 dp7 de7) H := hP
        have hD : va_D A (w1 o0 o1 o2 cA cB zs7 ns7 hn7 sm7 ak7 hd7 br7 dp7 de7) := hD
        refine lv_if_ne (tgt := 43) hx hb dX1_share_33 (by decide) (fun c8 => ?_) (fun c8 => ?_)
        · have hf := (if_neg c8).symm.trans hf
          refine lv_aload_n hx hb dX1_share_43 rfl (lv_at hl 0 rfl) ?_
          refine lv_iload_n hx hb dX1_share_44 rfl (lv_at hl 2 rfl) ?_
          refine lv_iload_n hx hb dX1_share_45 rfl (lv_at hl 3 rfl) ?_
          obtain ⟨r9, hq9, hf⟩ := ob_some hf
          try dsimp only at hf
          refine kc_i (wr := []) (As := [.int x2, .int x3]) (rest := []) [0, 1, 2] [] [0, 1] 1 0 hCF (okX1_isPlace l hq9) (cwV 2 hts gX1_share_X1_isPlace rfl rfl rfl ydX1_isPlace ⟨Nat.le_of_ble_eq_true rfl, Nat.le_of_ble_eq_true rfl⟩) hK hP hD hS hA rfl rfl rfl rfl rfl (fun _ h => by cases h) rfl rfl rfl rfl hl.1 rfl (Nat.le_of_ble_eq_true rfl) dX1_share_46 ⟨Nat.zero_le _, Nat.zero_le _⟩ (fun H locs hP hD hS => ?_)
          have hP : va_P (dC, dI) vwCl (w1 o0 o1 o2 cA cB zs7 ns7 hn7 sm7 ak7 hd7 br7 dp7 de7) H := hP
          have hD : va_D A (w1 o0 o1 o2 cA cB zs7 ns7 hn7 sm7 ak7 hd7 br7 dp7 de7) := hD
          refine lv_if_ne (tgt := 59) hx hb dX1_share_49 (by decide) (fun c10 => ?_) (fun c10 => ?_)
          · have hf := (if_neg c10).symm.trans hf
            refine lv_iconst (v := 0) hx hb dX1_share_59 (by decide) ?_
            refine lv_istore (lv' := [(4, .int 0), (0, .ref o0), (1, .int x1), (2, .int x2), (3, .int x3)]) hx hb dX1_share_60 hl (by decide) rfl (fun ls hl => ?_)
            exact loop62 9 _ _ _ _ _ _ _ _ _ _ _ _ _ _ _ _ hf hP hD hS (lv_sub hl [1, 2, 3, 4, 0] rfl)
          · have hf := (if_pos c10).symm.trans hf
            refine lv_aload_n hx hb dX1_share_52 rfl (lv_at hl 0 rfl) ?_
            refine lv_iconst (v := 2) hx hb dX1_share_53 (by decide) ?_
            refine lv_iconst (v := 2) hx hb dX1_share_54 (by decide) ?_
            obtain ⟨⟨r21, zs21, ns21, hn21, sm21, ak21, hd21, br21, dp21, de21⟩, hq21, hf⟩ := ob_some hf
            try dsimp only at hf
            refine kc_i (wr := []) (As := [.int 2, .int 2]) (rest := []) [0, 1, 2] [] [0, 1] 1 0 hCF (okX1_ends l hq21) (cwV 2 hts gX1_share_X1_ends rfl rfl rfl ydX1_ends ⟨Nat.le_of_ble_eq_true rfl, Nat.le_of_ble_eq_true rfl⟩) hK hP hD hS hA rfl rfl rfl rfl rfl (fun _ h => by cases h) rfl rfl rfl rfl hl.1 rfl (Nat.le_of_ble_eq_true rfl) dX1_share_55 ⟨Nat.zero_le _, Nat.zero_le _⟩ (fun H locs hP hD hS => ?_)
            have hP : va_P (dC, dI) vwCl (w1 o0 o1 o2 cA cB zs21 ns21 hn21 sm21 ak21 hd21 br21 dp21 de21) H := hP
            have hD : va_D A (w1 o0 o1 o2 cA cB zs21 ns21 hn21 sm21 ak21 hd21 br21 dp21 de21) := hD
            obtain ⟨hv, hu⟩ := os_pair hf
            subst hu
            exact W.iret (v := r21) hx hb hr (fun t ht hW => k_endi hv hP hK hD hS ht hW) hS.2.2 dX1_share_58
        · have hf := (if_pos c8).symm.trans hf
          refine lv_aload_n hx hb dX1_share_36 rfl (lv_at hl 0 rfl) ?_
          refine lv_iconst (v := 1) hx hb dX1_share_37 (by decide) ?_
          refine lv_iconst (v := 1) hx hb dX1_share_38 (by decide) ?_
          obtain ⟨⟨r22, zs22, ns22, hn22, sm22, ak22, hd22, br22, dp22, de22⟩, hq22, hf⟩ := ob_some hf
          try dsimp only at hf
          refine kc_i (wr := []) (As := [.int 1, .int 1]) (rest := []) [0, 1, 2] [] [0, 1] 1 0 hCF (okX1_ends l hq22) (cwV 2 hts gX1_share_X1_ends rfl rfl rfl ydX1_ends ⟨Nat.le_of_ble_eq_true rfl, Nat.le_of_ble_eq_true rfl⟩) hK hP hD hS hA rfl rfl rfl rfl rfl (fun _ h => by cases h) rfl rfl rfl rfl hl.1 rfl (Nat.le_of_ble_eq_true rfl) dX1_share_39 ⟨Nat.zero_le _, Nat.zero_le _⟩ (fun H locs hP hD hS => ?_)
          have hP : va_P (dC, dI) vwCl (w1 o0 o1 o2 cA cB zs22 ns22 hn22 sm22 ak22 hd22 br22 dp22 de22) H := hP
          have hD : va_D A (w1 o0 o1 o2 cA cB zs22 ns22 hn22 sm22 ak22 hd22 br22 dp22 de22) := hD
          obtain ⟨hv, hu⟩ := os_pair hf
          subst hu
          exact W.iret (v := r22) hx hb hr (fun t ht hW => k_endi hv hP hK hD hS ht hW) hS.2.2 dX1_share_42
      · have hf := (if_pos c6).symm.trans hf
        refine lv_bipush (v := (-11)) hx hb dX1_share_25 (by decide) ?_
        obtain ⟨hv, hu⟩ := os_pair hf
        subst hu
        exact W.iret (v := (-11)) hx hb hr (fun t ht hW => k_endi hv hP hK hD hS ht hW) hS.2.2 dX1_share_27
    · have hf := (if_pos c4).symm.trans hf
      refine lv_bipush (v := (-2)) hx hb dX1_share_14 (by decide) ?_
      obtain ⟨hv, hu⟩ := os_pair hf
      subst hu
      exact W.iret (v := (-2)) hx hb hr (fun t ht hW => k_endi hv hP hK hD hS ht hW) hS.2.2 dX1_share_16
set_option maxHeartbeats 4000000 in
set_option maxRecDepth 100000 in
theorem okX1_spread (l : Launch) {dC : Nat → ClassId} {dI : Nat → Nat → Nat} {o0 o1 o2 : Nat} {cA cB : ClassId} {sz : Nat} {x1 x2 : Int32} {zs0 ns0 : Nat → Int32} {hn0 : Int32} {sm0 ak0 hd0 br0 : Int64} {dp0 de0 : Int32} {r : Int32} {st2 : S1} (hf : fX1_spread x1 x2 zs0 ns0 hn0 sm0 ak0 hd0 br0 dp0 de0 = some (r, st2)) : kMi l yX1_spread wsX1_spread ({ frames := 2, cells := 0, slots := 0, locals := 44 }) (dC, dI) vwCl [(cA, .int), (cB, .int)] (w1 o0 o1 o2 cA cB zs0 ns0 hn0 sm0 ak0 hd0 br0 dp0 de0) (w1t o0 o1 o2 cA cB st2) [.ref o0, .int x1, .int x2] sz r := by
  rw [fX1_spread] at hf
  refine Met.ofW (cc := cX1_spread) (maxL := 5) (ret := (some .int)) (by decide) rfl ?_
  intro p e s m args below meth c s₁ B hml hv
  obtain ⟨rfl, hsz, hP, hK, hD0⟩ := hv
  have hx := B.exec
  have hb := B.bytes
  have hr := B.returns
  have hts := atoms_spec (ws := wsX1_spread) B.pre
  have hown : s.vm.findClass RX1 = some m.cls := findClass_of_methodNamed B.named
  have hlocks := B.notSynchronized
  subst hsz
  have hD := hD0.self (sz := s.heap.size)
  generalize hAe : va_A (w1 o0 o1 o2 cA cB zs0 ns0 hn0 sm0 ak0 hd0 br0 dp0 de0) s.heap.size = A at hD ⊢
  have hA : ∀ q : Nat, s.heap.size ≤ q → A q := fun q h => by rw [← hAe]; exact Or.inr h
  have hS : va_S A s.heap s.heap [] := va_S.rf
  have hin0 : ∀ w ∈ wsX10, w ∈ wsX1_spread := fun w h => List.mem_cons_of_mem _ (List.mem_append_right _ h)
  have hfl9 := hts (.fieldLink RX1 9 "CountRoomModel" "sizes" "[I") (by decide +kernel)
  have hfl13 := hts (.fieldLink RX1 13 "CountRoomModel" "numbers" "[I") (by decide +kernel)
  have hfl27 := hts (.fieldLink RX1 27 "CountRoomModel" "depth" "I") (by decide +kernel)
  have hCF : CallFix p m c cX1_spread 5 s _ wsX1_spread RX1 := ⟨hx, hb, hml, hown, hts⟩
  have loop30 : ∀ (k : Nat) (y1 y2 y3 : Int32) (zs ns : Nat → Int32) (hn : Int32) (sm ak hd br : Int64) (dp de : Int32) (H : Heap) (locs : List Loc) (ls : Array Slot), fX1_spread_30 k y1 y2 y3 zs ns hn sm ak hd br dp de = some (r, st2) → va_P (dC, dI) vwCl (w1 o0 o1 o2 cA cB zs ns hn sm ak hd br dp de) H → va_D A (w1 o0 o1 o2 cA cB zs ns hn sm ak hd br dp de) → va_S A s.heap H locs → lv_has ls 5 [(0, .ref o0), (1, .int y1), (2, .int y2), (3, .int y3)] → W p l e (headSpec wsX1_spread ({ frames := 2, cells := 0, slots := 0, locals := 44 })).room s m ([.ref o0, .int x1, .int x2] : List Value).toArray below meth c H locs 0 0 (MQ below (va_Qi (fun (r2 : Int32) (_ : Unit) => r2 = r) (k_out (dC, dI) vwCl [(cA, .int), (cB, .int)] A (w1t o0 o1 o2 cA cB st2)) A) ([.ref o0, .int x1, .int x2] : List Value).toArray s 0 0 A) (F0 m 30 ls []) := by
    intro k
    induction k with
    | zero => intro y1 y2 y3 zs ns hn sm ak hd br dp de H locs ls hf; cases hf
    | succ k ih =>
      intro y1 y2 y3 zs ns hn sm ak hd br dp de H locs ls hf hP hD hS hl
      rw [fX1_spread_30] at hf
      refine lv_iload_n hx hb dX1_spread_30 rfl (lv_at hl 3 rfl) ?_
      refine lv_aload_n hx hb dX1_spread_31 rfl (lv_at hl 0 rfl) ?_
      refine va_get (D := (dC, dI)) (ci := 1) (v := .ref o1) (C := RX1) (T := TX1) (N := 9) hx hb hts hin0 hown hK hP 0 rfl rfl 0 (by decide) hfl9 (fun _ h9 => h9) rfl dX1_spread_32 ?_
      refine lv_iload_n hx hb dX1_spread_35 rfl (lv_at hl 1 rfl) ?_
      obtain ⟨hi7, hf⟩ := og_no hf
      refine va_iald hx hb hK hP 1 0 rfl rfl hi7 dX1_spread_36 ?_
      refine lv_icmp_ge (tgt := 142) hx hb dX1_spread_37 (by decide) (fun c8 => ?_) (fun c8 => ?_)
      · have hf := (if_pos c8).symm.trans hf
        refine lv_aload_n hx hb dX1_spread_142 rfl (lv_at hl 0 rfl) ?_
        refine lv_iconst (v := 1) hx hb dX1_spread_143 (by decide) ?_
        refine lv_iconst (v := 0) hx hb dX1_spread_144 (by decide) ?_
        obtain ⟨⟨r9, zs9, ns9, hn9, sm9, ak9, hd9, br9, dp9, de9⟩, hq9, hf⟩ := ob_some hf
        try dsimp only at hf
        refine kc_i (wr := []) (As := [.int 1, .int 0]) (rest := []) [0, 1, 2] [] [0, 1] 1 0 hCF (okX1_ends l hq9) (cwV 2 hts gX1_spread_X1_ends rfl rfl rfl ydX1_ends ⟨Nat.le_of_ble_eq_true rfl, Nat.le_of_ble_eq_true rfl⟩) hK hP hD hS hA rfl rfl rfl rfl rfl (fun _ h => by cases h) rfl rfl rfl rfl hl.1 rfl (Nat.le_of_ble_eq_true rfl) dX1_spread_145 ⟨Nat.zero_le _, Nat.zero_le _⟩ (fun H locs hP hD hS => ?_)
        have hP : va_P (dC, dI) vwCl (w1 o0 o1 o2 cA cB zs9 ns9 hn9 sm9 ak9 hd9 br9 dp9 de9) H := hP
        have hD : va_D A (w1 o0 o1 o2 cA cB zs9 ns9 hn9 sm9 ak9 hd9 br9 dp9 de9) := hD
        refine lv_aload_n hx hb dX1_spread_148 rfl (lv_at hl 0 rfl) ?_
        refine va_get (D := (dC, dI)) (ci := 1) (v := .ref o1) (C := RX1) (T := TX1) (N := 9) hx hb hts hin0 hown hK hP 0 rfl rfl 0 (by decide) hfl9 (fun _ h9 => h9) rfl dX1_spread_149 ?_
        refine lv_iload_n hx hb dX1_spread_152 rfl (lv_at hl 1 rfl) ?_
        obtain ⟨hi10, hf⟩ := og_no hf
        refine va_iald hx hb hK hP 1 0 rfl rfl hi10 dX1_spread_153 ?_
        refine lv_iadd hx hb dX1_spread_154 ?_
        obtain ⟨hv, hu⟩ := os_pair hf
        subst hu
        exact W.iret (v := r9 + (zs9 y1.toNatClampNeg)) hx hb hr (fun t ht hW => k_endi hv hP hK hD hS ht hW) hS.2.2 dX1_spread_155
      · have hf := (if_neg c8).symm.trans hf
        refine lv_aload_n hx hb dX1_spread_40 rfl (lv_at hl 0 rfl) ?_
        refine lv_iload_n hx hb dX1_spread_41 rfl (lv_at hl 2 rfl) ?_
        obtain ⟨⟨r11, zs11, ns11, hn11, sm11, ak11, hd11, br11, dp11, de11⟩, hq11, hf⟩ := ob_some hf
        try dsimp only at hf
        refine kc_i (wr := []) (As := [.int y2]) (rest := []) [0, 1, 2] [] [0, 1] 1 0 hCF (okX1_holds l hq11) (cwV 1 hts gX1_spread_X1_holds rfl rfl rfl ydX1_holds ⟨Nat.le_of_ble_eq_true rfl, Nat.le_of_ble_eq_true rfl⟩) hK hP hD hS hA rfl rfl rfl rfl rfl (fun _ h => by cases h) rfl rfl rfl rfl hl.1 rfl (Nat.le_of_ble_eq_true rfl) dX1_spread_42 ⟨Nat.zero_le _, Nat.zero_le _⟩ (fun H locs hP hD hS => ?_)
        have hP : va_P (dC, dI) vwCl (w1 o0 o1 o2 cA cB zs11 ns11 hn11 sm11 ak11 hd11 br11 dp11 de11) H := hP
        have hD : va_D A (w1 o0 o1 o2 cA cB zs11 ns11 hn11 sm11 ak11 hd11 br11 dp11 de11) := hD
        refine lv_if_ne (tgt := 55) hx hb dX1_spread_45 (by decide) (fun c12 => ?_) (fun c12 => ?_)
        · have hf := (if_neg c12).symm.trans hf
          refine lv_aload_n hx hb dX1_spread_55 rfl (lv_at hl 0 rfl) ?_
          refine lv_iload_n hx hb dX1_spread_56 rfl (lv_at hl 2 rfl) ?_
          refine lv_iload_n hx hb dX1_spread_57 rfl (lv_at hl 3 rfl) ?_
          obtain ⟨r13, hq13, hf⟩ := ob_some hf
          try dsimp only at hf
          refine kc_i (wr := []) (As := [.int y2, .int y3]) (rest := []) [0, 1, 2] [] [0, 1] 1 0 hCF (okX1_isPlace l hq13) (cwV 2 hts gX1_spread_X1_isPlace rfl rfl rfl ydX1_isPlace ⟨Nat.le_of_ble_eq_true rfl, Nat.le_of_ble_eq_true rfl⟩) hK hP hD hS hA rfl rfl rfl rfl rfl (fun _ h => by cases h) rfl rfl rfl rfl hl.1 rfl (Nat.le_of_ble_eq_true rfl) dX1_spread_58 ⟨Nat.zero_le _, Nat.zero_le _⟩ (fun H locs hP hD hS => ?_)
          have hP : va_P (dC, dI) vwCl (w1 o0 o1 o2 cA cB zs11 ns11 hn11 sm11 ak11 hd11 br11 dp11 de11) H := hP
          have hD : va_D A (w1 o0 o1 o2 cA cB zs11 ns11 hn11 sm11 ak11 hd11 br11 dp11 de11) := hD
          refine lv_if_ne (tgt := 71) hx hb dX1_spread_61 (by decide) (fun c14 => ?_) (fun c14 => ?_)
          · have hf := (if_neg c14).symm.trans hf
            refine lv_aload_n hx hb dX1_spread_71 rfl (lv_at hl 0 rfl) ?_
            refine va_get (D := (dC, dI)) (ci := 1) (v := .ref o2) (C := RX1) (T := TX1) (N := 9) hx hb hts hin0 hown hK hP 0 rfl rfl 1 (by decide) hfl13 (fun _ h9 => h9) rfl dX1_spread_72 ?_
            refine lv_bipush (v := 8) hx hb dX1_spread_75 (by decide) ?_
            refine lv_iload_n hx hb dX1_spread_77 rfl (lv_at hl 2 rfl) ?_
            refine lv_imul hx hb dX1_spread_78 ?_
            refine lv_iload_n hx hb dX1_spread_79 rfl (lv_at hl 3 rfl) ?_
            refine lv_iadd hx hb dX1_spread_80 ?_
            obtain ⟨hi15, hf⟩ := og_no hf
            refine va_iald hx hb hK hP 2 1 rfl rfl hi15 dX1_spread_81 ?_
            refine lv_istore (lv' := [(4, .int (ns11 ((8 * y2) + y3).toNatClampNeg)), (0, .ref o0), (1, .int y1), (2, .int y2), (3, .int y3)]) hx hb dX1_spread_82 hl (by decide) rfl (fun ls hl => ?_)
            refine lv_iload hx hb dX1_spread_84 (lv_at hl 0 rfl) ?_
            refine lv_if_ne (tgt := 96) hx hb dX1_spread_86 (by decide) (fun c16 => ?_) (fun c16 => ?_)
            · have hf := (if_neg c16).symm.trans hf
              refine lv_aload_n hx hb dX1_spread_96 rfl (lv_at hl 1 rfl) ?_
              refine va_get (D := (dC, dI)) (ci := 1) (v := .ref o2) (C := RX1) (T := TX1) (N := 9) hx hb hts hin0 hown hK hP 0 rfl rfl 1 (by decide) hfl13 (fun _ h9 => h9) rfl dX1_spread_97 ?_
              refine lv_bipush (v := 8) hx hb dX1_spread_100 (by decide) ?_
              refine lv_iload_n hx hb dX1_spread_102 rfl (lv_at hl 3 rfl) ?_
              refine lv_imul hx hb dX1_spread_103 ?_
              refine lv_iload_n hx hb dX1_spread_104 rfl (lv_at hl 4 rfl) ?_
              refine lv_iadd hx hb dX1_spread_105 ?_
              refine lv_iload hx hb dX1_spread_106 (lv_at hl 0 rfl) ?_
              refine lv_aload_n hx hb dX1_spread_108 rfl (lv_at hl 1 rfl) ?_
              refine va_get (D := (dC, dI)) (ci := 1) (v := .ref o2) (C := RX1) (T := TX1) (N := 9) hx hb hts hin0 hown hK hP 0 rfl rfl 1 (by decide) hfl13 (fun _ h9 => h9) rfl dX1_spread_109 ?_
              refine lv_bipush (v := 8) hx hb dX1_spread_112 (by decide) ?_
              refine lv_iload_n hx hb dX1_spread_114 rfl (lv_at hl 2 rfl) ?_
              refine lv_imul hx hb dX1_spread_115 ?_
              refine lv_iload_n hx hb dX1_spread_116 rfl (lv_at hl 4 rfl) ?_
              refine lv_iadd hx hb dX1_spread_117 ?_
              obtain ⟨hi17, hf⟩ := og_no hf
              refine va_iald hx hb hK hP 2 1 rfl rfl hi17 dX1_spread_118 ?_
              refine lv_iload hx hb dX1_spread_119 (lv_at hl 0 rfl) ?_
              obtain ⟨r18, hq18, hf⟩ := ob_some hf
              try dsimp only at hf
              refine ks_i (wr := w1 o0 o1 o2 cA cB zs11 ns11 hn11 sm11 ak11 hd11 br11 dp11 de11) (As := [.int (ns11 ((8 * y1) + y3).toNatClampNeg), .int (ns11 ((8 * y2) + y3).toNatClampNeg)]) (rest := [.int (ns11 ((8 * y2) + y3).toNatClampNeg), .int ((8 * y2) + y3), .ref o2]) [0, 1, 2] hCF (okX1_quotient l hq18) (va_cwS 2 hts gX1_spread_X1_quotient rfl rfl rfl ydX1_quotient ⟨Nat.le_of_ble_eq_true rfl, Nat.le_of_ble_eq_true rfl⟩) hK hP hD hS hA rfl rfl rfl hl.1 rfl (Nat.le_of_ble_eq_true rfl) dX1_spread_121 ⟨Nat.zero_le _, Nat.zero_le _⟩ (fun H locs hP hD hS => ?_)
              have hP : va_P (dC, dI) vwCl (w1 o0 o1 o2 cA cB zs11 ns11 hn11 sm11 ak11 hd11 br11 dp11 de11) H := hP
              have hD : va_D A (w1 o0 o1 o2 cA cB zs11 ns11 hn11 sm11 ak11 hd11 br11 dp11 de11) := hD
              refine lv_iadd hx hb dX1_spread_124 ?_
              obtain ⟨hi19, hf⟩ := og_no hf
              refine va_iast hx hb hK hP hD hS 2 1 rfl rfl hi19 dX1_spread_125 (fun H locs hP hD hS => ?_)
              have hP : va_P (dC, dI) vwCl (w1 o0 o1 o2 cA cB zs11 (upd ns11 ((8 * y2) + y3).toNatClampNeg ((ns11 ((8 * y2) + y3).toNatClampNeg) + r18)) hn11 sm11 ak11 hd11 br11 dp11 de11) H := hP
              have hD : va_D A (w1 o0 o1 o2 cA cB zs11 (upd ns11 ((8 * y2) + y3).toNatClampNeg ((ns11 ((8 * y2) + y3).toNatClampNeg) + r18)) hn11 sm11 ak11 hd11 br11 dp11 de11) := hD
              refine lv_aload_n hx hb dX1_spread_126 rfl (lv_at hl 1 rfl) ?_
              refine lv_dup hx hb dX1_spread_127 rfl ?_
              refine va_get (D := (dC, dI)) (ci := 1) (v := .int dp11) (C := RX1) (T := TX1) (N := 9) hx hb hts hin0 hown hK hP 0 rfl rfl 7 (by decide) hfl27 (fun _ h9 => h9) rfl dX1_spread_128 ?_
              refine lv_iconst (v := 1) hx hb dX1_spread_131 (by decide) ?_
              refine lv_isub hx hb dX1_spread_132 ?_
              refine va_put (D := (dC, dI)) (ci := 1) (v := .int (dp11 - 1)) (ty := .int) (C := RX1) (T := TX1) (N := 9) hx hb hts hin0 tyX1 tyX1_ok nmX1 hown hK hP hD hS 0 rfl rfl 7 (by decide) hfl27 (fun _ h9 => h9) rfl (by decide +kernel) rfl rfl (Nat.le_of_ble_eq_true rfl) dX1_spread_133 (fun H locs hP hD hS => ?_)
              have hP : va_P (dC, dI) vwCl (w1 o0 o1 o2 cA cB zs11 (upd ns11 ((8 * y2) + y3).toNatClampNeg ((ns11 ((8 * y2) + y3).toNatClampNeg) + r18)) hn11 sm11 ak11 hd11 br11 (dp11 - 1) de11) H := hP
              have hD : va_D A (w1 o0 o1 o2 cA cB zs11 (upd ns11 ((8 * y2) + y3).toNatClampNeg ((ns11 ((8 * y2) + y3).toNatClampNeg) + r18)) hn11 sm11 ak11 hd11 br11 (dp11 - 1) de11) := hD
              refine lv_iinc (v := y3 + 1) (lv' := [(3, .int (y3 + 1)), (4, .int (ns11 ((8 * y2) + y3).toNatClampNeg)), (0, .ref o0), (1, .int y1), (2, .int y2)]) hx hb dX1_spread_136 hl (k := 4) rfl (congrArg (fun t => y3 + t) (by decide)) (by decide) rfl (fun ls hl => ?_)
              refine lv_goto (tgt := 30) hx hb dX1_spread_139 (by decide) ?_
              exact ih _ _ _ _ _ _ _ _ _ _ _ _ _ _ _ hf hP hD hS (lv_sub hl [2, 3, 4, 0] rfl)
            · have hf := (if_pos c16).symm.trans hf
              refine lv_aload_n hx hb dX1_spread_89 rfl (lv_at hl 1 rfl) ?_
              refine lv_iconst (v := 2) hx hb dX1_spread_90 (by decide) ?_
              refine lv_iconst (v := 3) hx hb dX1_spread_91 (by decide) ?_
              obtain ⟨⟨r20, zs20, ns20, hn20, sm20, ak20, hd20, br20, dp20, de20⟩, hq20, hf⟩ := ob_some hf
              try dsimp only at hf
              refine kc_i (wr := []) (As := [.int 2, .int 3]) (rest := []) [0, 1, 2] [] [0, 1] 1 0 hCF (okX1_ends l hq20) (cwV 2 hts gX1_spread_X1_ends rfl rfl rfl ydX1_ends ⟨Nat.le_of_ble_eq_true rfl, Nat.le_of_ble_eq_true rfl⟩) hK hP hD hS hA rfl rfl rfl rfl rfl (fun _ h => by cases h) rfl rfl rfl rfl hl.1 rfl (Nat.le_of_ble_eq_true rfl) dX1_spread_92 ⟨Nat.zero_le _, Nat.zero_le _⟩ (fun H locs hP hD hS => ?_)
              have hP : va_P (dC, dI) vwCl (w1 o0 o1 o2 cA cB zs20 ns20 hn20 sm20 ak20 hd20 br20 dp20 de20) H := hP
              have hD : va_D A (w1 o0 o1 o2 cA cB zs20 ns20 hn20 sm20 ak20 hd20 br20 dp20 de20) := hD
              obtain ⟨hv, hu⟩ := os_pair hf
              subst hu
              exact W.iret (v := r20) hx hb hr (fun t ht hW => k_endi hv hP hK hD hS ht hW) hS.2.2 dX1_spread_95
          · have hf := (if_pos c14).symm.trans hf
            refine lv_aload_n hx hb dX1_spread_64 rfl (lv_at hl 0 rfl) ?_
            refine lv_iconst (v := 2) hx hb dX1_spread_65 (by decide) ?_
            refine lv_iconst (v := 2) hx hb dX1_spread_66 (by decide) ?_
            obtain ⟨⟨r21, zs21, ns21, hn21, sm21, ak21, hd21, br21, dp21, de21⟩, hq21, hf⟩ := ob_some hf
            try dsimp only at hf
            refine kc_i (wr := []) (As := [.int 2, .int 2]) (rest := []) [0, 1, 2] [] [0, 1] 1 0 hCF (okX1_ends l hq21) (cwV 2 hts gX1_spread_X1_ends rfl rfl rfl ydX1_ends ⟨Nat.le_of_ble_eq_true rfl, Nat.le_of_ble_eq_true rfl⟩) hK hP hD hS hA rfl rfl rfl rfl rfl (fun _ h => by cases h) rfl rfl rfl rfl hl.1 rfl (Nat.le_of_ble_eq_true rfl) dX1_spread_67 ⟨Nat.zero_le _, Nat.zero_le _⟩ (fun H locs hP hD hS => ?_)
            have hP : va_P (dC, dI) vwCl (w1 o0 o1 o2 cA cB zs21 ns21 hn21 sm21 ak21 hd21 br21 dp21 de21) H := hP
            have hD : va_D A (w1 o0 o1 o2 cA cB zs21 ns21 hn21 sm21 ak21 hd21 br21 dp21 de21) := hD
            obtain ⟨hv, hu⟩ := os_pair hf
            subst hu
            exact W.iret (v := r21) hx hb hr (fun t ht hW => k_endi hv hP hK hD hS ht hW) hS.2.2 dX1_spread_70
        · have hf := (if_pos c12).symm.trans hf
          refine lv_aload_n hx hb dX1_spread_48 rfl (lv_at hl 0 rfl) ?_
          refine lv_iconst (v := 1) hx hb dX1_spread_49 (by decide) ?_
          refine lv_iconst (v := 1) hx hb dX1_spread_50 (by decide) ?_
          obtain ⟨⟨r22, zs22, ns22, hn22, sm22, ak22, hd22, br22, dp22, de22⟩, hq22, hf⟩ := ob_some hf
          try dsimp only at hf
          refine kc_i (wr := []) (As := [.int 1, .int 1]) (rest := []) [0, 1, 2] [] [0, 1] 1 0 hCF (okX1_ends l hq22) (cwV 2 hts gX1_spread_X1_ends rfl rfl rfl ydX1_ends ⟨Nat.le_of_ble_eq_true rfl, Nat.le_of_ble_eq_true rfl⟩) hK hP hD hS hA rfl rfl rfl rfl rfl (fun _ h => by cases h) rfl rfl rfl rfl hl.1 rfl (Nat.le_of_ble_eq_true rfl) dX1_spread_51 ⟨Nat.zero_le _, Nat.zero_le _⟩ (fun H locs hP hD hS => ?_)
          have hP : va_P (dC, dI) vwCl (w1 o0 o1 o2 cA cB zs22 ns22 hn22 sm22 ak22 hd22 br22 dp22 de22) H := hP
          have hD : va_D A (w1 o0 o1 o2 cA cB zs22 ns22 hn22 sm22 ak22 hd22 br22 dp22 de22) := hD
          obtain ⟨hv, hu⟩ := os_pair hf
          subst hu
          exact W.iret (v := r22) hx hb hr (fun t ht hW => k_endi hv hP hK hD hS ht hW) hS.2.2 dX1_spread_54
  have hl := lv_entry ([.ref o0, .int x1, .int x2]) (n := 5) (Nat.le_of_ble_eq_true rfl)
  rw [lg_entry_eq]
  generalize (lg_sl ([.ref o0, .int x1, .int x2]) ++ List.replicate (5 - (lg_sl ([.ref o0, .int x1, .int x2])).length) Slot.unset).toArray = ls at hl ⊢
  have hl : lv_has ls 5 [(0, .ref o0), (1, .int x1), (2, .int x2)] := hl
  refine lv_iload_n hx hb dX1_spread_0 rfl (lv_at hl 1 rfl) ?_
  obtain ⟨r1, hq1, hf⟩ := ob_some hf
  try dsimp only at hf
  refine ks_i (wr := w1 o0 o1 o2 cA cB zs0 ns0 hn0 sm0 ak0 hd0 br0 dp0 de0) (As := [.int x1]) (rest := []) [0, 1, 2] hCF (okX1_isDesk l hq1) (va_cwS 1 hts gX1_spread_X1_isDesk rfl rfl rfl ydX1_isDesk ⟨Nat.le_of_ble_eq_true rfl, Nat.le_of_ble_eq_true rfl⟩) hK hP hD hS hA rfl rfl rfl hl.1 rfl (Nat.le_of_ble_eq_true rfl) dX1_spread_1 ⟨Nat.zero_le _, Nat.zero_le _⟩ (fun H locs hP hD hS => ?_)
  have hP : va_P (dC, dI) vwCl (w1 o0 o1 o2 cA cB zs0 ns0 hn0 sm0 ak0 hd0 br0 dp0 de0) H := hP
  have hD : va_D A (w1 o0 o1 o2 cA cB zs0 ns0 hn0 sm0 ak0 hd0 br0 dp0 de0) := hD
  refine lv_if_eq (tgt := 14) hx hb dX1_spread_4 (by decide) (fun c2 => ?_) (fun c2 => ?_)
  · have hf := (if_pos c2).symm.trans hf
    refine lv_bipush (v := (-2)) hx hb dX1_spread_14 (by decide) ?_
    obtain ⟨hv, hu⟩ := os_pair hf
    subst hu
    exact W.iret (v := (-2)) hx hb hr (fun t ht hW => k_endi hv hP hK hD hS ht hW) hS.2.2 dX1_spread_16
  · have hf := (if_neg c2).symm.trans hf
    refine lv_iload_n hx hb dX1_spread_7 rfl (lv_at hl 2 rfl) ?_
    obtain ⟨r3, hq3, hf⟩ := ob_some hf
    try dsimp only at hf
    refine ks_i (wr := w1 o0 o1 o2 cA cB zs0 ns0 hn0 sm0 ak0 hd0 br0 dp0 de0) (As := [.int x2]) (rest := []) [0, 1, 2] hCF (okX1_isDesk l hq3) (va_cwS 1 hts gX1_spread_X1_isDesk rfl rfl rfl ydX1_isDesk ⟨Nat.le_of_ble_eq_true rfl, Nat.le_of_ble_eq_true rfl⟩) hK hP hD hS hA rfl rfl rfl hl.1 rfl (Nat.le_of_ble_eq_true rfl) dX1_spread_8 ⟨Nat.zero_le _, Nat.zero_le _⟩ (fun H locs hP hD hS => ?_)
    have hP : va_P (dC, dI) vwCl (w1 o0 o1 o2 cA cB zs0 ns0 hn0 sm0 ak0 hd0 br0 dp0 de0) H := hP
    have hD : va_D A (w1 o0 o1 o2 cA cB zs0 ns0 hn0 sm0 ak0 hd0 br0 dp0 de0) := hD
    refine lv_if_ne (tgt := 17) hx hb dX1_spread_11 (by decide) (fun c4 => ?_) (fun c4 => ?_)
    · have hf := (if_neg c4).symm.trans hf
      refine lv_aload_n hx hb dX1_spread_17 rfl (lv_at hl 0 rfl) ?_
      refine lv_iload_n hx hb dX1_spread_18 rfl (lv_at hl 1 rfl) ?_
      obtain ⟨⟨r5, zs5, ns5, hn5, sm5, ak5, hd5, br5, dp5, de5⟩, hq5, hf⟩ := ob_some hf
      try dsimp only at hf
      refine kc_i (wr := []) (As := [.int x1]) (rest := []) [0, 1, 2] [] [0, 1] 1 0 hCF (okX1_holds l hq5) (cwV 1 hts gX1_spread_X1_holds rfl rfl rfl ydX1_holds ⟨Nat.le_of_ble_eq_true rfl, Nat.le_of_ble_eq_true rfl⟩) hK hP hD hS hA rfl rfl rfl rfl rfl (fun _ h => by cases h) rfl rfl rfl rfl hl.1 rfl (Nat.le_of_ble_eq_true rfl) dX1_spread_19 ⟨Nat.zero_le _, Nat.zero_le _⟩ (fun H locs hP hD hS => ?_)
      have hP : va_P (dC, dI) vwCl (w1 o0 o1 o2 cA cB zs5 ns5 hn5 sm5 ak5 hd5 br5 dp5 de5) H := hP
      have hD : va_D A (w1 o0 o1 o2 cA cB zs5 ns5 hn5 sm5 ak5 hd5 br5 dp5 de5) := hD
      refine lv_if_ne (tgt := 28) hx hb dX1_spread_22 (by decide) (fun c6 => ?_) (fun c6 => ?_)
      · have hf := (if_neg c6).symm.trans hf
        refine lv_iconst (v := 0) hx hb dX1_spread_28 (by decide) ?_
        refine lv_istore_n (lv' := [(3, .int 0), (0, .ref o0), (1, .int x1), (2, .int x2)]) hx hb dX1_spread_29 rfl hl (by decide) rfl (fun ls hl => ?_)
        exact loop30 9 _ _ _ _ _ _ _ _ _ _ _ _ _ _ _ hf hP hD hS (lv_sub hl [1, 2, 3, 0] rfl)
      · have hf := (if_pos c6).symm.trans hf
        refine lv_bipush (v := (-11)) hx hb dX1_spread_25 (by decide) ?_
        obtain ⟨hv, hu⟩ := os_pair hf
        subst hu
        exact W.iret (v := (-11)) hx hb hr (fun t ht hW => k_endi hv hP hK hD hS ht hW) hS.2.2 dX1_spread_27
    · have hf := (if_pos c4).symm.trans hf
      refine lv_bipush (v := (-2)) hx hb dX1_spread_14 (by decide) ?_
      obtain ⟨hv, hu⟩ := os_pair hf
      subst hu
      exact W.iret (v := (-2)) hx hb hr (fun t ht hW => k_endi hv hP hK hD hS ht hW) hS.2.2 dX1_spread_16
set_option maxHeartbeats 4000000 in
set_option maxRecDepth 100000 in
theorem okX1_climb (l : Launch) {dC : Nat → ClassId} {dI : Nat → Nat → Nat} {o0 o1 o2 : Nat} {cA cB : ClassId} {sz : Nat} {x1 x2 : Int32} {zs0 ns0 : Nat → Int32} {hn0 : Int32} {sm0 ak0 hd0 br0 : Int64} {dp0 de0 : Int32} {r : Int32} {st2 : S1} (hf : fX1_climb x1 x2 zs0 ns0 hn0 sm0 ak0 hd0 br0 dp0 de0 = some (r, st2)) : kMi l yX1_climb wsX1_climb ({ frames := 2, cells := 0, slots := 0, locals := 44 }) (dC, dI) vwCl [(cA, .int), (cB, .int)] (w1 o0 o1 o2 cA cB zs0 ns0 hn0 sm0 ak0 hd0 br0 dp0 de0) (w1t o0 o1 o2 cA cB st2) [.ref o0, .int x1, .int x2] sz r := by
  rw [fX1_climb] at hf
  refine Met.ofW (cc := cX1_climb) (maxL := 4) (ret := (some .int)) (by decide) rfl ?_
  intro p e s m args below meth c s₁ B hml hv
  obtain ⟨rfl, hsz, hP, hK, hD0⟩ := hv
  have hx := B.exec
  have hb := B.bytes
  have hr := B.returns
  have hts := atoms_spec (ws := wsX1_climb) B.pre
  have hown : s.vm.findClass RX1 = some m.cls := findClass_of_methodNamed B.named
  have hlocks := B.notSynchronized
  subst hsz
  have hD := hD0.self (sz := s.heap.size)
  generalize hAe : va_A (w1 o0 o1 o2 cA cB zs0 ns0 hn0 sm0 ak0 hd0 br0 dp0 de0) s.heap.size = A at hD ⊢
  have hA : ∀ q : Nat, s.heap.size ≤ q → A q := fun q h => by rw [← hAe]; exact Or.inr h
  have hS : va_S A s.heap s.heap [] := va_S.rf
  have hin0 : ∀ w ∈ wsX10, w ∈ wsX1_climb := fun w h => List.mem_cons_of_mem _ (List.mem_append_right _ h)
  have hfl13 := hts (.fieldLink RX1 13 "CountRoomModel" "numbers" "[I") (by decide +kernel)
  have hfl55 := hts (.fieldLink RX1 55 "CountRoomModel" "sum" "J") (by decide +kernel)
  have hCF : CallFix p m c cX1_climb 4 s _ wsX1_climb RX1 := ⟨hx, hb, hml, hown, hts⟩
  have loop22 : ∀ (k : Nat) (y1 y2 y3 : Int32) (zs ns : Nat → Int32) (hn : Int32) (sm ak hd br : Int64) (dp de : Int32) (H : Heap) (locs : List Loc) (ls : Array Slot), fX1_climb_22 k y1 y2 y3 zs ns hn sm ak hd br dp de = some (r, st2) → va_P (dC, dI) vwCl (w1 o0 o1 o2 cA cB zs ns hn sm ak hd br dp de) H → va_D A (w1 o0 o1 o2 cA cB zs ns hn sm ak hd br dp de) → va_S A s.heap H locs → lv_has ls 4 [(0, .ref o0), (1, .int y1), (2, .int y2), (3, .int y3)] → W p l e (headSpec wsX1_climb ({ frames := 2, cells := 0, slots := 0, locals := 44 })).room s m ([.ref o0, .int x1, .int x2] : List Value).toArray below meth c H locs 0 0 (MQ below (va_Qi (fun (r2 : Int32) (_ : Unit) => r2 = r) (k_out (dC, dI) vwCl [(cA, .int), (cB, .int)] A (w1t o0 o1 o2 cA cB st2)) A) ([.ref o0, .int x1, .int x2] : List Value).toArray s 0 0 A) (F0 m 22 ls []) := by
    intro k
    induction k with
    | zero => intro y1 y2 y3 zs ns hn sm ak hd br dp de H locs ls hf; cases hf
    | succ k ih =>
      intro y1 y2 y3 zs ns hn sm ak hd br dp de H locs ls hf hP hD hS hl
      rw [fX1_climb_22] at hf
      refine lv_iload_n hx hb dX1_climb_22 rfl (lv_at hl 3 rfl) ?_
      refine lv_iload_n hx hb dX1_climb_23 rfl (lv_at hl 2 rfl) ?_
      refine lv_icmp_ge (tgt := 81) hx hb dX1_climb_24 (by decide) (fun c5 => ?_) (fun c5 => ?_)
      · have hf := (if_pos c5).symm.trans hf
        refine lv_aload_n hx hb dX1_climb_81 rfl (lv_at hl 0 rfl) ?_
        refine lv_dup hx hb dX1_climb_82 rfl ?_
        refine va_get (D := (dC, dI)) (ci := 1) (v := .long sm) (C := RX1) (T := TX1) (N := 9) hx hb hts hin0 hown hK hP 0 rfl rfl 3 (by decide) hfl55 (fun _ h9 => h9) rfl dX1_climb_83 ?_
        refine lv_aload_n hx hb dX1_climb_86 rfl (lv_at hl 0 rfl) ?_
        refine va_get (D := (dC, dI)) (ci := 1) (v := .ref o2) (C := RX1) (T := TX1) (N := 9) hx hb hts hin0 hown hK hP 0 rfl rfl 1 (by decide) hfl13 (fun _ h9 => h9) rfl dX1_climb_87 ?_
        refine lv_bipush (v := 8) hx hb dX1_climb_90 (by decide) ?_
        refine lv_iload_n hx hb dX1_climb_92 rfl (lv_at hl 1 rfl) ?_
        refine lv_imul hx hb dX1_climb_93 ?_
        obtain ⟨hi6, hf⟩ := og_no hf
        refine va_iald hx hb hK hP 2 1 rfl rfl hi6 dX1_climb_94 ?_
        refine lv_i2l hx hb dX1_climb_95 rfl ?_
        refine lv_ladd hx hb dX1_climb_96 ?_
        refine va_put (D := (dC, dI)) (ci := 1) (v := .long (sm + ((ns (8 * y1).toNatClampNeg).toInt64))) (ty := .long) (C := RX1) (T := TX1) (N := 9) hx hb hts hin0 tyX1 tyX1_ok nmX1 hown hK hP hD hS 0 rfl rfl 3 (by decide) hfl55 (fun _ h9 => h9) rfl (by decide +kernel) rfl rfl (Nat.le_of_ble_eq_true rfl) dX1_climb_97 (fun H locs hP hD hS => ?_)
        have hP : va_P (dC, dI) vwCl (w1 o0 o1 o2 cA cB zs ns hn (sm + ((ns (8 * y1).toNatClampNeg).toInt64)) ak hd br dp de) H := hP
        have hD : va_D A (w1 o0 o1 o2 cA cB zs ns hn (sm + ((ns (8 * y1).toNatClampNeg).toInt64)) ak hd br dp de) := hD
        refine lv_aload_n hx hb dX1_climb_100 rfl (lv_at hl 0 rfl) ?_
        refine lv_iload_n hx hb dX1_climb_101 rfl (lv_at hl 2 rfl) ?_
        refine lv_iconst (v := 0) hx hb dX1_climb_102 (by decide) ?_
        obtain ⟨⟨r7, zs7, ns7, hn7, sm7, ak7, hd7, br7, dp7, de7⟩, hq7, hf⟩ := ob_some hf
        try dsimp only at hf
        refine kc_i (wr := []) (As := [.int y2, .int 0]) (rest := []) [0, 1, 2] [] [0, 1] 1 0 hCF (okX1_ends l hq7) (cwV 2 hts gX1_climb_X1_ends rfl rfl rfl ydX1_ends ⟨Nat.le_of_ble_eq_true rfl, Nat.le_of_ble_eq_true rfl⟩) hK hP hD hS hA rfl rfl rfl rfl rfl (fun _ h => by cases h) rfl rfl rfl rfl hl.1 rfl (Nat.le_of_ble_eq_true rfl) dX1_climb_103 ⟨Nat.zero_le _, Nat.zero_le _⟩ (fun H locs hP hD hS => ?_)
        have hP : va_P (dC, dI) vwCl (w1 o0 o1 o2 cA cB zs7 ns7 hn7 sm7 ak7 hd7 br7 dp7 de7) H := hP
        have hD : va_D A (w1 o0 o1 o2 cA cB zs7 ns7 hn7 sm7 ak7 hd7 br7 dp7 de7) := hD
        refine lv_iload_n hx hb dX1_climb_106 rfl (lv_at hl 2 rfl) ?_
        refine lv_iadd hx hb dX1_climb_107 ?_
        obtain ⟨hv, hu⟩ := os_pair hf
        subst hu
        exact W.iret (v := r7 + y2) hx hb hr (fun t ht hW => k_endi hv hP hK hD hS ht hW) hS.2.2 dX1_climb_108
      · have hf := (if_neg c5).symm.trans hf
        refine lv_aload_n hx hb dX1_climb_27 rfl (lv_at hl 0 rfl) ?_
        refine lv_iload_n hx hb dX1_climb_28 rfl (lv_at hl 1 rfl) ?_
        obtain ⟨⟨r8, zs8, ns8, hn8, sm8, ak8, hd8, br8, dp8, de8⟩, hq8, hf⟩ := ob_some hf
        try dsimp only at hf
        refine kc_i (wr := []) (As := [.int y1]) (rest := []) [0, 1, 2] [] [0, 1] 1 0 hCF (okX1_holds l hq8) (cwV 1 hts gX1_climb_X1_holds rfl rfl rfl ydX1_holds ⟨Nat.le_of_ble_eq_true rfl, Nat.le_of_ble_eq_true rfl⟩) hK hP hD hS hA rfl rfl rfl rfl rfl (fun _ h => by cases h) rfl rfl rfl rfl hl.1 rfl (Nat.le_of_ble_eq_true rfl) dX1_climb_29 ⟨Nat.zero_le _, Nat.zero_le _⟩ (fun H locs hP hD hS => ?_)
        have hP : va_P (dC, dI) vwCl (w1 o0 o1 o2 cA cB zs8 ns8 hn8 sm8 ak8 hd8 br8 dp8 de8) H := hP
        have hD : va_D A (w1 o0 o1 o2 cA cB zs8 ns8 hn8 sm8 ak8 hd8 br8 dp8 de8) := hD
        refine lv_if_ne (tgt := 42) hx hb dX1_climb_32 (by decide) (fun c9 => ?_) (fun c9 => ?_)
        · have hf := (if_neg c9).symm.trans hf
          refine lv_aload_n hx hb dX1_climb_42 rfl (lv_at hl 0 rfl) ?_
          refine lv_iload_n hx hb dX1_climb_43 rfl (lv_at hl 1 rfl) ?_
          refine lv_iload_n hx hb dX1_climb_44 rfl (lv_at hl 3 rfl) ?_
          obtain ⟨r10, hq10, hf⟩ := ob_some hf
          try dsimp only at hf
          refine kc_i (wr := []) (As := [.int y1, .int y3]) (rest := []) [0, 1, 2] [] [0, 1] 1 0 hCF (okX1_isPlace l hq10) (cwV 2 hts gX1_climb_X1_isPlace rfl rfl rfl ydX1_isPlace ⟨Nat.le_of_ble_eq_true rfl, Nat.le_of_ble_eq_true rfl⟩) hK hP hD hS hA rfl rfl rfl rfl rfl (fun _ h => by cases h) rfl rfl rfl rfl hl.1 rfl (Nat.le_of_ble_eq_true rfl) dX1_climb_45 ⟨Nat.zero_le _, Nat.zero_le _⟩ (fun H locs hP hD hS => ?_)
          have hP : va_P (dC, dI) vwCl (w1 o0 o1 o2 cA cB zs8 ns8 hn8 sm8 ak8 hd8 br8 dp8 de8) H := hP
          have hD : va_D A (w1 o0 o1 o2 cA cB zs8 ns8 hn8 sm8 ak8 hd8 br8 dp8 de8) := hD
          refine lv_if_ne (tgt := 60) hx hb dX1_climb_48 (by decide) (fun c11 => ?_) (fun c11 => ?_)
          · have hf := (if_neg c11).symm.trans hf
            refine lv_aload_n hx hb dX1_climb_60 rfl (lv_at hl 0 rfl) ?_
            refine va_get (D := (dC, dI)) (ci := 1) (v := .ref o2) (C := RX1) (T := TX1) (N := 9) hx hb hts hin0 hown hK hP 0 rfl rfl 1 (by decide) hfl13 (fun _ h9 => h9) rfl dX1_climb_61 ?_
            refine lv_bipush (v := 8) hx hb dX1_climb_64 (by decide) ?_
            refine lv_iload_n hx hb dX1_climb_66 rfl (lv_at hl 1 rfl) ?_
            refine lv_imul hx hb dX1_climb_67 ?_
            refine lv_iload_n hx hb dX1_climb_68 rfl (lv_at hl 3 rfl) ?_
            refine lv_iadd hx hb dX1_climb_69 ?_
            refine lv_dup2_11 hx hb dX1_climb_70 rfl rfl ?_
            obtain ⟨hi12, hf⟩ := og_no hf
            refine va_iald hx hb hK hP 2 1 rfl rfl hi12 dX1_climb_71 ?_
            refine lv_iload_n hx hb dX1_climb_72 rfl (lv_at hl 3 rfl) ?_
            refine lv_iadd hx hb dX1_climb_73 ?_
            obtain ⟨hi13, hf⟩ := og_no hf
            refine va_iast hx hb hK hP hD hS 2 1 rfl rfl hi13 dX1_climb_74 (fun H locs hP hD hS => ?_)
            have hP : va_P (dC, dI) vwCl (w1 o0 o1 o2 cA cB zs8 (upd ns8 ((8 * y1) + y3).toNatClampNeg ((ns8 ((8 * y1) + y3).toNatClampNeg) + y3)) hn8 sm8 ak8 hd8 br8 dp8 de8) H := hP
            have hD : va_D A (w1 o0 o1 o2 cA cB zs8 (upd ns8 ((8 * y1) + y3).toNatClampNeg ((ns8 ((8 * y1) + y3).toNatClampNeg) + y3)) hn8 sm8 ak8 hd8 br8 dp8 de8) := hD
            refine lv_iinc (v := y3 + 1) (lv' := [(3, .int (y3 + 1)), (0, .ref o0), (1, .int y1), (2, .int y2)]) hx hb dX1_climb_75 hl (k := 3) rfl (congrArg (fun t => y3 + t) (by decide)) (by decide) rfl (fun ls hl => ?_)
            refine lv_goto (tgt := 22) hx hb dX1_climb_78 (by decide) ?_
            exact ih _ _ _ _ _ _ _ _ _ _ _ _ _ _ _ hf hP hD hS (lv_sub hl [1, 2, 3, 0] rfl)
          · have hf := (if_pos c11).symm.trans hf
            refine lv_aload_n hx hb dX1_climb_51 rfl (lv_at hl 0 rfl) ?_
            refine lv_iload_n hx hb dX1_climb_52 rfl (lv_at hl 3 rfl) ?_
            refine lv_iconst (v := 1) hx hb dX1_climb_53 (by decide) ?_
            refine lv_iadd hx hb dX1_climb_54 ?_
            refine lv_iconst (v := 2) hx hb dX1_climb_55 (by decide) ?_
            obtain ⟨⟨r14, zs14, ns14, hn14, sm14, ak14, hd14, br14, dp14, de14⟩, hq14, hf⟩ := ob_some hf
            try dsimp only at hf
            refine kc_i (wr := []) (As := [.int (y3 + 1), .int 2]) (rest := []) [0, 1, 2] [] [0, 1] 1 0 hCF (okX1_ends l hq14) (cwV 2 hts gX1_climb_X1_ends rfl rfl rfl ydX1_ends ⟨Nat.le_of_ble_eq_true rfl, Nat.le_of_ble_eq_true rfl⟩) hK hP hD hS hA rfl rfl rfl rfl rfl (fun _ h => by cases h) rfl rfl rfl rfl hl.1 rfl (Nat.le_of_ble_eq_true rfl) dX1_climb_56 ⟨Nat.zero_le _, Nat.zero_le _⟩ (fun H locs hP hD hS => ?_)
            have hP : va_P (dC, dI) vwCl (w1 o0 o1 o2 cA cB zs14 ns14 hn14 sm14 ak14 hd14 br14 dp14 de14) H := hP
            have hD : va_D A (w1 o0 o1 o2 cA cB zs14 ns14 hn14 sm14 ak14 hd14 br14 dp14 de14) := hD
            obtain ⟨hv, hu⟩ := os_pair hf
            subst hu
            exact W.iret (v := r14) hx hb hr (fun t ht hW => k_endi hv hP hK hD hS ht hW) hS.2.2 dX1_climb_59
        · have hf := (if_pos c9).symm.trans hf
          refine lv_aload_n hx hb dX1_climb_35 rfl (lv_at hl 0 rfl) ?_
          refine lv_iload_n hx hb dX1_climb_36 rfl (lv_at hl 3 rfl) ?_
          refine lv_iconst (v := 1) hx hb dX1_climb_37 (by decide) ?_
          obtain ⟨⟨r15, zs15, ns15, hn15, sm15, ak15, hd15, br15, dp15, de15⟩, hq15, hf⟩ := ob_some hf
          try dsimp only at hf
          refine kc_i (wr := []) (As := [.int y3, .int 1]) (rest := []) [0, 1, 2] [] [0, 1] 1 0 hCF (okX1_ends l hq15) (cwV 2 hts gX1_climb_X1_ends rfl rfl rfl ydX1_ends ⟨Nat.le_of_ble_eq_true rfl, Nat.le_of_ble_eq_true rfl⟩) hK hP hD hS hA rfl rfl rfl rfl rfl (fun _ h => by cases h) rfl rfl rfl rfl hl.1 rfl (Nat.le_of_ble_eq_true rfl) dX1_climb_38 ⟨Nat.zero_le _, Nat.zero_le _⟩ (fun H locs hP hD hS => ?_)
          have hP : va_P (dC, dI) vwCl (w1 o0 o1 o2 cA cB zs15 ns15 hn15 sm15 ak15 hd15 br15 dp15 de15) H := hP
          have hD : va_D A (w1 o0 o1 o2 cA cB zs15 ns15 hn15 sm15 ak15 hd15 br15 dp15 de15) := hD
          obtain ⟨hv, hu⟩ := os_pair hf
          subst hu
          exact W.iret (v := r15) hx hb hr (fun t ht hW => k_endi hv hP hK hD hS ht hW) hS.2.2 dX1_climb_41
  have hl := lv_entry ([.ref o0, .int x1, .int x2]) (n := 4) (Nat.le_of_ble_eq_true rfl)
  rw [lg_entry_eq]
  generalize (lg_sl ([.ref o0, .int x1, .int x2]) ++ List.replicate (4 - (lg_sl ([.ref o0, .int x1, .int x2])).length) Slot.unset).toArray = ls at hl ⊢
  have hl : lv_has ls 4 [(0, .ref o0), (1, .int x1), (2, .int x2)] := hl
  refine lv_iload_n hx hb dX1_climb_0 rfl (lv_at hl 1 rfl) ?_
  obtain ⟨r1, hq1, hf⟩ := ob_some hf
  try dsimp only at hf
  refine ks_i (wr := w1 o0 o1 o2 cA cB zs0 ns0 hn0 sm0 ak0 hd0 br0 dp0 de0) (As := [.int x1]) (rest := []) [0, 1, 2] hCF (okX1_isDesk l hq1) (va_cwS 1 hts gX1_climb_X1_isDesk rfl rfl rfl ydX1_isDesk ⟨Nat.le_of_ble_eq_true rfl, Nat.le_of_ble_eq_true rfl⟩) hK hP hD hS hA rfl rfl rfl hl.1 rfl (Nat.le_of_ble_eq_true rfl) dX1_climb_1 ⟨Nat.zero_le _, Nat.zero_le _⟩ (fun H locs hP hD hS => ?_)
  have hP : va_P (dC, dI) vwCl (w1 o0 o1 o2 cA cB zs0 ns0 hn0 sm0 ak0 hd0 br0 dp0 de0) H := hP
  have hD : va_D A (w1 o0 o1 o2 cA cB zs0 ns0 hn0 sm0 ak0 hd0 br0 dp0 de0) := hD
  refine lv_if_eq (tgt := 17) hx hb dX1_climb_4 (by decide) (fun c2 => ?_) (fun c2 => ?_)
  · have hf := (if_pos c2).symm.trans hf
    refine lv_bipush (v := (-2)) hx hb dX1_climb_17 (by decide) ?_
    obtain ⟨hv, hu⟩ := os_pair hf
    subst hu
    exact W.iret (v := (-2)) hx hb hr (fun t ht hW => k_endi hv hP hK hD hS ht hW) hS.2.2 dX1_climb_19
  · have hf := (if_neg c2).symm.trans hf
    refine lv_iload_n hx hb dX1_climb_7 rfl (lv_at hl 2 rfl) ?_
    refine lv_iconst (v := 1) hx hb dX1_climb_8 (by decide) ?_
    refine lv_bipush (v := 12) hx hb dX1_climb_9 (by decide) ?_
    obtain ⟨r3, hq3, hf⟩ := ob_some hf
    try dsimp only at hf
    refine ks_i (wr := w1 o0 o1 o2 cA cB zs0 ns0 hn0 sm0 ak0 hd0 br0 dp0 de0) (As := [.int x2, .int 1, .int 12]) (rest := []) [0, 1, 2] hCF (okX1_in l hq3) (va_cwS 3 hts gX1_climb_X1_in rfl rfl rfl ydX1_in ⟨Nat.le_of_ble_eq_true rfl, Nat.le_of_ble_eq_true rfl⟩) hK hP hD hS hA rfl rfl rfl hl.1 rfl (Nat.le_of_ble_eq_true rfl) dX1_climb_11 ⟨Nat.zero_le _, Nat.zero_le _⟩ (fun H locs hP hD hS => ?_)
    have hP : va_P (dC, dI) vwCl (w1 o0 o1 o2 cA cB zs0 ns0 hn0 sm0 ak0 hd0 br0 dp0 de0) H := hP
    have hD : va_D A (w1 o0 o1 o2 cA cB zs0 ns0 hn0 sm0 ak0 hd0 br0 dp0 de0) := hD
    refine lv_if_ne (tgt := 20) hx hb dX1_climb_14 (by decide) (fun c4 => ?_) (fun c4 => ?_)
    · have hf := (if_neg c4).symm.trans hf
      refine lv_iconst (v := 0) hx hb dX1_climb_20 (by decide) ?_
      refine lv_istore_n (lv' := [(3, .int 0), (0, .ref o0), (1, .int x1), (2, .int x2)]) hx hb dX1_climb_21 rfl hl (by decide) rfl (fun ls hl => ?_)
      exact loop22 13 _ _ _ _ _ _ _ _ _ _ _ _ _ _ _ hf hP hD hS (lv_sub hl [1, 2, 3, 0] rfl)
    · have hf := (if_pos c4).symm.trans hf
      refine lv_bipush (v := (-2)) hx hb dX1_climb_17 (by decide) ?_
      obtain ⟨hv, hu⟩ := os_pair hf
      subst hu
      exact W.iret (v := (-2)) hx hb hr (fun t ht hW => k_endi hv hP hK hD hS ht hW) hS.2.2 dX1_climb_19
set_option maxHeartbeats 4000000 in
set_option maxRecDepth 100000 in
theorem okX1_find (l : Launch) {dC : Nat → ClassId} {dI : Nat → Nat → Nat} {o0 o1 o2 : Nat} {cA cB : ClassId} {sz : Nat} {x1 : Int32} {zs0 ns0 : Nat → Int32} {hn0 : Int32} {sm0 ak0 hd0 br0 : Int64} {dp0 de0 : Int32} {r : Int32} {st2 : S1} (hf : fX1_find x1 zs0 ns0 hn0 sm0 ak0 hd0 br0 dp0 de0 = some (r, st2)) : kMi l yX1_find wsX1_find ({ frames := 1, cells := 0, slots := 0, locals := 21 }) (dC, dI) vwCl [(cA, .int), (cB, .int)] (w1 o0 o1 o2 cA cB zs0 ns0 hn0 sm0 ak0 hd0 br0 dp0 de0) (w1t o0 o1 o2 cA cB st2) [.ref o0, .int x1] sz r := by
  rw [fX1_find] at hf
  refine Met.ofW (cc := cX1_find) (maxL := 5) (ret := (some .int)) (by decide) rfl ?_
  intro p e s m args below meth c s₁ B hml hv
  obtain ⟨rfl, hsz, hP, hK, hD0⟩ := hv
  have hx := B.exec
  have hb := B.bytes
  have hr := B.returns
  have hts := atoms_spec (ws := wsX1_find) B.pre
  have hown : s.vm.findClass RX1 = some m.cls := findClass_of_methodNamed B.named
  have hlocks := B.notSynchronized
  subst hsz
  have hD := hD0.self (sz := s.heap.size)
  generalize hAe : va_A (w1 o0 o1 o2 cA cB zs0 ns0 hn0 sm0 ak0 hd0 br0 dp0 de0) s.heap.size = A at hD ⊢
  have hA : ∀ q : Nat, s.heap.size ≤ q → A q := fun q h => by rw [← hAe]; exact Or.inr h
  have hS : va_S A s.heap s.heap [] := va_S.rf
  have hin0 : ∀ w ∈ wsX10, w ∈ wsX1_find := fun w h => List.mem_cons_of_mem _ (List.mem_append_right _ h)
  have hfl9 := hts (.fieldLink RX1 9 "CountRoomModel" "sizes" "[I") (by decide +kernel)
  have hfl13 := hts (.fieldLink RX1 13 "CountRoomModel" "numbers" "[I") (by decide +kernel)
  have hfl27 := hts (.fieldLink RX1 27 "CountRoomModel" "depth" "I") (by decide +kernel)
  have hCF : CallFix p m c cX1_find 5 s _ wsX1_find RX1 := ⟨hx, hb, hml, hown, hts⟩
  have loop42 : ∀ {zs ns : Nat → Int32} {hn : Int32} {sm ak hd br : Int64} {dp de : Int32} (H : Heap) (locs : List Loc), va_P (dC, dI) vwCl (w1 o0 o1 o2 cA cB zs ns hn sm ak hd br dp de) H → va_D A (w1 o0 o1 o2 cA cB zs ns hn sm ak hd br dp de) → va_S A s.heap H locs → ∀ (k : Nat) (y1 y2 y3 y4 : Int32) (r2 : Int32) (ls : Array Slot), fX1_find_42 k y1 y2 y3 y4 zs ns hn sm ak hd br dp de = some r2 → lv_has ls 5 [(0, .ref o0), (1, .int y1), (2, .int y2), (3, .int y3), (4, .int y4)] → (∀ ls : Array Slot, lv_has ls 5 [(0, .ref o0), (1, .int y1), (2, .int r2), (3, .int y3)] → W p l e (headSpec wsX1_find ({ frames := 1, cells := 0, slots := 0, locals := 21 })).room s m ([.ref o0, .int x1] : List Value).toArray below meth c H locs 0 0 (MQ below (va_Qi (fun (r2 : Int32) (_ : Unit) => r2 = r) (k_out (dC, dI) vwCl [(cA, .int), (cB, .int)] A (w1t o0 o1 o2 cA cB st2)) A) ([.ref o0, .int x1] : List Value).toArray s 0 0 A) (F0 m 81 ls [])) → W p l e (headSpec wsX1_find ({ frames := 1, cells := 0, slots := 0, locals := 21 })).room s m ([.ref o0, .int x1] : List Value).toArray below meth c H locs 0 0 (MQ below (va_Qi (fun (r2 : Int32) (_ : Unit) => r2 = r) (k_out (dC, dI) vwCl [(cA, .int), (cB, .int)] A (w1t o0 o1 o2 cA cB st2)) A) ([.ref o0, .int x1] : List Value).toArray s 0 0 A) (F0 m 42 ls []) := by
    intro zs ns hn sm ak hd br dp de H locs hP hD hS k
    induction k with
    | zero => intro y1 y2 y3 y4 r2 ls hf; cases hf
    | succ k ih =>
      intro y1 y2 y3 y4 r2 ls hf hl kk
      rw [fX1_find_42] at hf
      refine lv_iload hx hb dX1_find_42 (lv_at hl 4 rfl) ?_
      refine lv_if_lt (tgt := 81) hx hb dX1_find_44 (by decide) (fun c8 => ?_) (fun c8 => ?_)
      · have hf := (if_pos c8).symm.trans hf
        obtain rfl := Option.some.inj hf
        exact kk ls (lv_sub hl [0, 1, 2, 3] rfl)
      · have hf := (if_neg c8).symm.trans hf
        refine lv_aload_n hx hb dX1_find_47 rfl (lv_at hl 0 rfl) ?_
        refine va_get (D := (dC, dI)) (ci := 1) (v := .ref o2) (C := RX1) (T := TX1) (N := 9) hx hb hts hin0 hown hK hP 0 rfl rfl 1 (by decide) hfl13 (fun _ h9 => h9) rfl dX1_find_48 ?_
        refine lv_bipush (v := 8) hx hb dX1_find_51 (by decide) ?_
        refine lv_iload_n hx hb dX1_find_53 rfl (lv_at hl 3 rfl) ?_
        refine lv_imul hx hb dX1_find_54 ?_
        refine lv_iload hx hb dX1_find_55 (lv_at hl 4 rfl) ?_
        refine lv_iadd hx hb dX1_find_57 ?_
        obtain ⟨hi9, hf⟩ := og_no hf
        refine va_iald hx hb hK hP 2 1 rfl rfl hi9 dX1_find_58 ?_
        refine lv_iload_n hx hb dX1_find_59 rfl (lv_at hl 1 rfl) ?_
        refine lv_icmp_ne (tgt := 73) hx hb dX1_find_60 (by decide) (fun c10 => ?_) (fun c10 => ?_)
        · have hf := (if_neg c10).symm.trans hf
          refine lv_iload_n hx hb dX1_find_73 rfl (lv_at hl 2 rfl) ?_
          refine lv_istore_n (lv' := [(2, .int y2), (0, .ref o0), (1, .int y1), (3, .int y3), (4, .int y4)]) hx hb dX1_find_74 rfl hl (by decide) rfl (fun ls hl => ?_)
          refine lv_iinc (v := y4 + (-1)) (lv' := [(4, .int (y4 + (-1))), (2, .int y2), (0, .ref o0), (1, .int y1), (3, .int y3)]) hx hb dX1_find_75 hl (k := 4) rfl (congrArg (fun t => y4 + t) (by decide)) (by decide) rfl (fun ls hl => ?_)
          refine lv_goto (tgt := 42) hx hb dX1_find_78 (by decide) ?_
          exact ih _ _ _ _ _ _ hf (lv_sub hl [2, 3, 1, 4, 0] rfl) kk
        · have hf := (if_pos c10).symm.trans hf
          refine lv_bipush (v := 8) hx hb dX1_find_63 (by decide) ?_
          refine lv_iload_n hx hb dX1_find_65 rfl (lv_at hl 3 rfl) ?_
          refine lv_imul hx hb dX1_find_66 ?_
          refine lv_iload hx hb dX1_find_67 (lv_at hl 4 rfl) ?_
          refine lv_iadd hx hb dX1_find_69 ?_
          refine lv_goto (tgt := 74) hx hb dX1_find_70 (by decide) ?_
          refine lv_istore_n (lv' := [(2, .int ((8 * y3) + y4)), (0, .ref o0), (1, .int y1), (3, .int y3), (4, .int y4)]) hx hb dX1_find_74 rfl hl (by decide) rfl (fun ls hl => ?_)
          refine lv_iinc (v := y4 + (-1)) (lv' := [(4, .int (y4 + (-1))), (2, .int ((8 * y3) + y4)), (0, .ref o0), (1, .int y1), (3, .int y3)]) hx hb dX1_find_75 hl (k := 4) rfl (congrArg (fun t => y4 + t) (by decide)) (by decide) rfl (fun ls hl => ?_)
          refine lv_goto (tgt := 42) hx hb dX1_find_78 (by decide) ?_
          exact ih _ _ _ _ _ _ hf (lv_sub hl [2, 3, 1, 4, 0] rfl) kk
  have loop4 : ∀ (k : Nat) (y1 y2 y3 : Int32) (zs ns : Nat → Int32) (hn : Int32) (sm ak hd br : Int64) (dp de : Int32) (H : Heap) (locs : List Loc) (ls : Array Slot), fX1_find_4 k y1 y2 y3 zs ns hn sm ak hd br dp de = some (r, st2) → va_P (dC, dI) vwCl (w1 o0 o1 o2 cA cB zs ns hn sm ak hd br dp de) H → va_D A (w1 o0 o1 o2 cA cB zs ns hn sm ak hd br dp de) → va_S A s.heap H locs → lv_has ls 5 [(0, .ref o0), (1, .int y1), (2, .int y2), (3, .int y3)] → W p l e (headSpec wsX1_find ({ frames := 1, cells := 0, slots := 0, locals := 21 })).room s m ([.ref o0, .int x1] : List Value).toArray below meth c H locs 0 0 (MQ below (va_Qi (fun (r2 : Int32) (_ : Unit) => r2 = r) (k_out (dC, dI) vwCl [(cA, .int), (cB, .int)] A (w1t o0 o1 o2 cA cB st2)) A) ([.ref o0, .int x1] : List Value).toArray s 0 0 A) (F0 m 4 ls []) := by
    intro k
    induction k with
    | zero => intro y1 y2 y3 zs ns hn sm ak hd br dp de H locs ls hf; cases hf
    | succ k ih =>
      intro y1 y2 y3 zs ns hn sm ak hd br dp de H locs ls hf hP hD hS hl
      rw [fX1_find_4] at hf
      refine lv_iload_n hx hb dX1_find_4 rfl (lv_at hl 3 rfl) ?_
      refine lv_bipush (v := 8) hx hb dX1_find_5 (by decide) ?_
      refine lv_icmp_ge (tgt := 97) hx hb dX1_find_7 (by decide) (fun c1 => ?_) (fun c1 => ?_)
      · have hf := (if_pos c1).symm.trans hf
        refine lv_iload_n hx hb dX1_find_97 rfl (lv_at hl 2 rfl) ?_
        obtain ⟨hv, hu⟩ := os_pair hf
        subst hu
        exact W.iret (v := y2) hx hb hr (fun t ht hW => k_endi hv hP hK hD hS ht hW) hS.2.2 dX1_find_98
      · have hf := (if_neg c1).symm.trans hf
        refine lv_iload_n hx hb dX1_find_10 rfl (lv_at hl 2 rfl) ?_
        refine lv_iconst (v := (-1)) hx hb dX1_find_11 (by decide) ?_
        refine lv_icmp_ne (tgt := 97) hx hb dX1_find_12 (by decide) (fun c2 => ?_) (fun c2 => ?_)
        · have hf := (if_neg c2).symm.trans hf
          refine lv_iload_n hx hb dX1_find_97 rfl (lv_at hl 2 rfl) ?_
          obtain ⟨hv, hu⟩ := os_pair hf
          subst hu
          exact W.iret (v := y2) hx hb hr (fun t ht hW => k_endi hv hP hK hD hS ht hW) hS.2.2 dX1_find_98
        · have hf := (if_pos c2).symm.trans hf
          refine lv_aload_n hx hb dX1_find_15 rfl (lv_at hl 0 rfl) ?_
          refine va_get (D := (dC, dI)) (ci := 1) (v := .ref o1) (C := RX1) (T := TX1) (N := 9) hx hb hts hin0 hown hK hP 0 rfl rfl 0 (by decide) hfl9 (fun _ h9 => h9) rfl dX1_find_16 ?_
          refine lv_iload_n hx hb dX1_find_19 rfl (lv_at hl 3 rfl) ?_
          obtain ⟨hi3, hf⟩ := og_no hf
          refine va_iald hx hb hK hP 1 0 rfl rfl hi3 dX1_find_20 ?_
          refine lv_if_le (tgt := 91) hx hb dX1_find_21 (by decide) (fun c4 => ?_) (fun c4 => ?_)
          · have hf := (if_pos c4).symm.trans hf
            refine lv_iinc (v := y3 + 1) (lv' := [(3, .int (y3 + 1)), (0, .ref o0), (1, .int y1), (2, .int y2)]) hx hb dX1_find_91 hl (k := 3) rfl (congrArg (fun t => y3 + t) (by decide)) (by decide) rfl (fun ls hl => ?_)
            refine lv_goto (tgt := 4) hx hb dX1_find_94 (by decide) ?_
            exact ih _ _ _ _ _ _ _ _ _ _ _ _ _ _ _ hf hP hD hS (lv_sub hl [1, 2, 3, 0] rfl)
          · have hf := (if_neg c4).symm.trans hf
            refine lv_aload_n hx hb dX1_find_24 rfl (lv_at hl 0 rfl) ?_
            refine lv_iload_n hx hb dX1_find_25 rfl (lv_at hl 3 rfl) ?_
            obtain ⟨⟨r5, zs5, ns5, hn5, sm5, ak5, hd5, br5, dp5, de5⟩, hq5, hf⟩ := ob_some hf
            try dsimp only at hf
            refine kc_i (wr := []) (As := [.int y3]) (rest := []) [0, 1, 2] [] [0, 1] 1 0 hCF (okX1_holds l hq5) (cwV 1 hts gX1_find_X1_holds rfl rfl rfl ydX1_holds ⟨Nat.le_of_ble_eq_true rfl, Nat.le_of_ble_eq_true rfl⟩) hK hP hD hS hA rfl rfl rfl rfl rfl (fun _ h => by cases h) rfl rfl rfl rfl hl.1 rfl (Nat.le_of_ble_eq_true rfl) dX1_find_26 ⟨Nat.zero_le _, Nat.zero_le _⟩ (fun H locs hP hD hS => ?_)
            have hP : va_P (dC, dI) vwCl (w1 o0 o1 o2 cA cB zs5 ns5 hn5 sm5 ak5 hd5 br5 dp5 de5) H := hP
            have hD : va_D A (w1 o0 o1 o2 cA cB zs5 ns5 hn5 sm5 ak5 hd5 br5 dp5 de5) := hD
            refine lv_if_eq (tgt := 91) hx hb dX1_find_29 (by decide) (fun c6 => ?_) (fun c6 => ?_)
            · have hf := (if_pos c6).symm.trans hf
              refine lv_iinc (v := y3 + 1) (lv' := [(3, .int (y3 + 1)), (0, .ref o0), (1, .int y1), (2, .int y2)]) hx hb dX1_find_91 hl (k := 3) rfl (congrArg (fun t => y3 + t) (by decide)) (by decide) rfl (fun ls hl => ?_)
              refine lv_goto (tgt := 4) hx hb dX1_find_94 (by decide) ?_
              exact ih _ _ _ _ _ _ _ _ _ _ _ _ _ _ _ hf hP hD hS (lv_sub hl [1, 2, 3, 0] rfl)
            · have hf := (if_neg c6).symm.trans hf
              refine lv_aload_n hx hb dX1_find_32 rfl (lv_at hl 0 rfl) ?_
              refine va_get (D := (dC, dI)) (ci := 1) (v := .ref o1) (C := RX1) (T := TX1) (N := 9) hx hb hts hin0 hown hK hP 0 rfl rfl 0 (by decide) hfl9 (fun _ h9 => h9) rfl dX1_find_33 ?_
              refine lv_iload_n hx hb dX1_find_36 rfl (lv_at hl 3 rfl) ?_
              obtain ⟨hi7, hf⟩ := og_no hf
              refine va_iald hx hb hK hP 1 0 rfl rfl hi7 dX1_find_37 ?_
              refine lv_iconst (v := 1) hx hb dX1_find_38 (by decide) ?_
              refine lv_isub hx hb dX1_find_39 ?_
              refine lv_istore (lv' := [(4, .int ((zs5 y3.toNatClampNeg) - 1)), (0, .ref o0), (1, .int y1), (2, .int y2), (3, .int y3)]) hx hb dX1_find_40 hl (by decide) rfl (fun ls hl => ?_)
              obtain ⟨x2_11, hq11, hf⟩ := ob_some hf
              try dsimp only at hf
              refine loop42 H locs hP hD hS 9 _ _ _ _ _ _ hq11 (lv_sub hl [1, 2, 3, 4, 0] rfl) (fun ls hl => ?_)
              refine lv_aload_n hx hb dX1_find_81 rfl (lv_at hl 0 rfl) ?_
              refine lv_dup hx hb dX1_find_82 rfl ?_
              refine va_get (D := (dC, dI)) (ci := 1) (v := .int dp5) (C := RX1) (T := TX1) (N := 9) hx hb hts hin0 hown hK hP 0 rfl rfl 7 (by decide) hfl27 (fun _ h9 => h9) rfl dX1_find_83 ?_
              refine lv_iconst (v := 1) hx hb dX1_find_86 (by decide) ?_
              refine lv_isub hx hb dX1_find_87 ?_
              refine va_put (D := (dC, dI)) (ci := 1) (v := .int (dp5 - 1)) (ty := .int) (C := RX1) (T := TX1) (N := 9) hx hb hts hin0 tyX1 tyX1_ok nmX1 hown hK hP hD hS 0 rfl rfl 7 (by decide) hfl27 (fun _ h9 => h9) rfl (by decide +kernel) rfl rfl (Nat.le_of_ble_eq_true rfl) dX1_find_88 (fun H locs hP hD hS => ?_)
              have hP : va_P (dC, dI) vwCl (w1 o0 o1 o2 cA cB zs5 ns5 hn5 sm5 ak5 hd5 br5 (dp5 - 1) de5) H := hP
              have hD : va_D A (w1 o0 o1 o2 cA cB zs5 ns5 hn5 sm5 ak5 hd5 br5 (dp5 - 1) de5) := hD
              refine lv_iinc (v := y3 + 1) (lv' := [(3, .int (y3 + 1)), (0, .ref o0), (1, .int y1), (2, .int x2_11)]) hx hb dX1_find_91 hl (k := 3) rfl (congrArg (fun t => y3 + t) (by decide)) (by decide) rfl (fun ls hl => ?_)
              refine lv_goto (tgt := 4) hx hb dX1_find_94 (by decide) ?_
              exact ih _ _ _ _ _ _ _ _ _ _ _ _ _ _ _ hf hP hD hS (lv_sub hl [1, 2, 3, 0] rfl)
  have hl := lv_entry ([.ref o0, .int x1]) (n := 5) (Nat.le_of_ble_eq_true rfl)
  rw [lg_entry_eq]
  generalize (lg_sl ([.ref o0, .int x1]) ++ List.replicate (5 - (lg_sl ([.ref o0, .int x1])).length) Slot.unset).toArray = ls at hl ⊢
  have hl : lv_has ls 5 [(0, .ref o0), (1, .int x1)] := hl
  refine lv_iconst (v := (-1)) hx hb dX1_find_0 (by decide) ?_
  refine lv_istore_n (lv' := [(2, .int (-1)), (0, .ref o0), (1, .int x1)]) hx hb dX1_find_1 rfl hl (by decide) rfl (fun ls hl => ?_)
  refine lv_iconst (v := 0) hx hb dX1_find_2 (by decide) ?_
  refine lv_istore_n (lv' := [(3, .int 0), (2, .int (-1)), (0, .ref o0), (1, .int x1)]) hx hb dX1_find_3 rfl hl (by decide) rfl (fun ls hl => ?_)
  exact loop4 9 _ _ _ _ _ _ _ _ _ _ _ _ _ _ _ hf hP hD hS (lv_sub hl [2, 3, 1, 0] rfl)
set_option maxHeartbeats 4000000 in
set_option maxRecDepth 100000 in
theorem okX1_rounds (l : Launch) {dC : Nat → ClassId} {dI : Nat → Nat → Nat} {o0 o1 o2 : Nat} {cA cB : ClassId} {sz : Nat} {x1 x2 : Int32} {zs0 ns0 : Nat → Int32} {hn0 : Int32} {sm0 ak0 hd0 br0 : Int64} {dp0 de0 : Int32} {r : Int32} {st2 : S1} (hf : fX1_rounds x1 x2 zs0 ns0 hn0 sm0 ak0 hd0 br0 dp0 de0 = some (r, st2)) : kMi l yX1_rounds wsX1_rounds ({ frames := 1, cells := 0, slots := 0, locals := 22 }) (dC, dI) vwCl [(cA, .int), (cB, .int)] (w1 o0 o1 o2 cA cB zs0 ns0 hn0 sm0 ak0 hd0 br0 dp0 de0) (w1t o0 o1 o2 cA cB st2) [.ref o0, .int x1, .int x2] sz r := by
  rw [fX1_rounds] at hf
  refine Met.ofW (cc := cX1_rounds) (maxL := 7) (ret := (some .int)) (by decide) rfl ?_
  intro p e s m args below meth c s₁ B hml hv
  obtain ⟨rfl, hsz, hP, hK, hD0⟩ := hv
  have hx := B.exec
  have hb := B.bytes
  have hr := B.returns
  have hts := atoms_spec (ws := wsX1_rounds) B.pre
  have hown : s.vm.findClass RX1 = some m.cls := findClass_of_methodNamed B.named
  have hlocks := B.notSynchronized
  subst hsz
  have hD := hD0.self (sz := s.heap.size)
  generalize hAe : va_A (w1 o0 o1 o2 cA cB zs0 ns0 hn0 sm0 ak0 hd0 br0 dp0 de0) s.heap.size = A at hD ⊢
  have hA : ∀ q : Nat, s.heap.size ≤ q → A q := fun q h => by rw [← hAe]; exact Or.inr h
  have hS : va_S A s.heap s.heap [] := va_S.rf
  have hin0 : ∀ w ∈ wsX10, w ∈ wsX1_rounds := fun w h => List.mem_cons_of_mem _ (List.mem_append_right _ h)
  have hfl13 := hts (.fieldLink RX1 13 "CountRoomModel" "numbers" "[I") (by decide +kernel)
  have hfl27 := hts (.fieldLink RX1 27 "CountRoomModel" "depth" "I") (by decide +kernel)
  have hfl58 := hts (.fieldLink RX1 58 "CountRoomModel" "hand" "I") (by decide +kernel)
  have hCF : CallFix p m c cX1_rounds 7 s _ wsX1_rounds RX1 := ⟨hx, hb, hml, hown, hts⟩
  have loop21 : ∀ (k : Nat) (y1 y2 y3 y4 y5 : Int32) (zs ns : Nat → Int32) (hn : Int32) (sm ak hd br : Int64) (dp de : Int32) (H : Heap) (locs : List Loc) (ls : Array Slot), fX1_rounds_21 k y1 y2 y3 y4 y5 zs ns hn sm ak hd br dp de = some (r, st2) → va_P (dC, dI) vwCl (w1 o0 o1 o2 cA cB zs ns hn sm ak hd br dp de) H → va_D A (w1 o0 o1 o2 cA cB zs ns hn sm ak hd br dp de) → va_S A s.heap H locs → lv_has ls 7 [(0, .ref o0), (1, .int y1), (2, .int y2), (3, .int y3), (4, .int y4), (5, .int y5)] → W p l e (headSpec wsX1_rounds ({ frames := 1, cells := 0, slots := 0, locals := 22 })).room s m ([.ref o0, .int x1, .int x2] : List Value).toArray below meth c H locs 0 0 (MQ below (va_Qi (fun (r2 : Int32) (_ : Unit) => r2 = r) (k_out (dC, dI) vwCl [(cA, .int), (cB, .int)] A (w1t o0 o1 o2 cA cB st2)) A) ([.ref o0, .int x1, .int x2] : List Value).toArray s 0 0 A) (F0 m 21 ls []) := by
    intro k
    induction k with
    | zero => intro y1 y2 y3 y4 y5 zs ns hn sm ak hd br dp de H locs ls hf; cases hf
    | succ k ih =>
      intro y1 y2 y3 y4 y5 zs ns hn sm ak hd br dp de H locs ls hf hP hD hS hl
      rw [fX1_rounds_21] at hf
      refine lv_iload hx hb dX1_rounds_21 (lv_at hl 5 rfl) ?_
      refine lv_iload_n hx hb dX1_rounds_23 rfl (lv_at hl 1 rfl) ?_
      refine lv_icmp_ge (tgt := 152) hx hb dX1_rounds_24 (by decide) (fun c3 => ?_) (fun c3 => ?_)
      · have hf := (if_pos c3).symm.trans hf
        refine lv_iload_n hx hb dX1_rounds_152 rfl (lv_at hl 3 rfl) ?_
        obtain ⟨hv, hu⟩ := os_pair hf
        subst hu
        exact W.iret (v := y3) hx hb hr (fun t ht hW => k_endi hv hP hK hD hS ht hW) hS.2.2 dX1_rounds_153
      · have hf := (if_neg c3).symm.trans hf
        refine lv_iload hx hb dX1_rounds_27 (lv_at hl 4 rfl) ?_
        refine lv_if_eq (tgt := 152) hx hb dX1_rounds_29 (by decide) (fun c4 => ?_) (fun c4 => ?_)
        · have hf := (if_pos c4).symm.trans hf
          refine lv_iload_n hx hb dX1_rounds_152 rfl (lv_at hl 3 rfl) ?_
          obtain ⟨hv, hu⟩ := os_pair hf
          subst hu
          exact W.iret (v := y3) hx hb hr (fun t ht hW => k_endi hv hP hK hD hS ht hW) hS.2.2 dX1_rounds_153
        · have hf := (if_neg c4).symm.trans hf
          refine lv_aload_n hx hb dX1_rounds_32 rfl (lv_at hl 0 rfl) ?_
          refine lv_aload_n hx hb dX1_rounds_33 rfl (lv_at hl 0 rfl) ?_
          refine va_get (D := (dC, dI)) (ci := 1) (v := .int hn) (C := RX1) (T := TX1) (N := 9) hx hb hts hin0 hown hK hP 0 rfl rfl 2 (by decide) hfl58 (fun _ h9 => h9) rfl dX1_rounds_34 ?_
          refine lv_iconst (v := 1) hx hb dX1_rounds_37 (by decide) ?_
          refine lv_iadd hx hb dX1_rounds_38 ?_
          refine lv_bipush (v := 8) hx hb dX1_rounds_39 (by decide) ?_
          refine lv_irem hx hb dX1_rounds_41 (by decide) ?_
          refine va_put (D := (dC, dI)) (ci := 1) (v := .int ((hn + 1) - (hn + 1) / 8 * 8)) (ty := .int) (C := RX1) (T := TX1) (N := 9) hx hb hts hin0 tyX1 tyX1_ok nmX1 hown hK hP hD hS 0 rfl rfl 2 (by decide) hfl58 (fun _ h9 => h9) rfl (by decide +kernel) rfl rfl (Nat.le_of_ble_eq_true rfl) dX1_rounds_42 (fun H locs hP hD hS => ?_)
          have hP : va_P (dC, dI) vwCl (w1 o0 o1 o2 cA cB zs ns ((hn + 1) - (hn + 1) / 8 * 8) sm ak hd br dp de) H := hP
          have hD : va_D A (w1 o0 o1 o2 cA cB zs ns ((hn + 1) - (hn + 1) / 8 * 8) sm ak hd br dp de) := hD
          refine lv_aload_n hx hb dX1_rounds_45 rfl (lv_at hl 0 rfl) ?_
          refine lv_aload_n hx hb dX1_rounds_46 rfl (lv_at hl 0 rfl) ?_
          refine va_get (D := (dC, dI)) (ci := 1) (v := .int ((hn + 1) - (hn + 1) / 8 * 8)) (C := RX1) (T := TX1) (N := 9) hx hb hts hin0 hown hK hP 0 rfl rfl 2 (by decide) hfl58 (fun _ h9 => h9) rfl dX1_rounds_47 ?_
          obtain ⟨⟨r5, zs5, ns5, hn5, sm5, ak5, hd5, br5, dp5, de5⟩, hq5, hf⟩ := ob_some hf
          try dsimp only at hf
          refine kc_i (wr := []) (As := [.int ((hn + 1) - (hn + 1) / 8 * 8)]) (rest := []) [0, 1, 2] [] [0, 1] 1 0 hCF (okX1_holds l hq5) (cwV 1 hts gX1_rounds_X1_holds rfl rfl rfl ydX1_holds ⟨Nat.le_of_ble_eq_true rfl, Nat.le_of_ble_eq_true rfl⟩) hK hP hD hS hA rfl rfl rfl rfl rfl (fun _ h => by cases h) rfl rfl rfl rfl hl.1 rfl (Nat.le_of_ble_eq_true rfl) dX1_rounds_50 ⟨Nat.zero_le _, Nat.zero_le _⟩ (fun H locs hP hD hS => ?_)
          have hP : va_P (dC, dI) vwCl (w1 o0 o1 o2 cA cB zs5 ns5 hn5 sm5 ak5 hd5 br5 dp5 de5) H := hP
          have hD : va_D A (w1 o0 o1 o2 cA cB zs5 ns5 hn5 sm5 ak5 hd5 br5 dp5 de5) := hD
          refine lv_if_eq (tgt := 139) hx hb dX1_rounds_53 (by decide) (fun c6 => ?_) (fun c6 => ?_)
          · have hf := (if_pos c6).symm.trans hf
            refine lv_iload_n hx hb dX1_rounds_139 rfl (lv_at hl 2 rfl) ?_
            refine lv_if_ne (tgt := 146) hx hb dX1_rounds_140 (by decide) (fun c7 => ?_) (fun c7 => ?_)
            · have hf := (if_neg c7).symm.trans hf
              refine lv_iinc (v := y5 + 1) (lv' := [(5, .int (y5 + 1)), (0, .ref o0), (1, .int y1), (2, .int y2), (3, .int y3), (4, .int y4)]) hx hb dX1_rounds_146 hl (k := 5) rfl (congrArg (fun t => y5 + t) (by decide)) (by decide) rfl (fun ls hl => ?_)
              refine lv_goto (tgt := 21) hx hb dX1_rounds_149 (by decide) ?_
              exact ih _ _ _ _ _ _ _ _ _ _ _ _ _ _ _ _ _ hf hP hD hS (lv_sub hl [1, 2, 3, 4, 5, 0] rfl)
            · have hf := (if_pos c7).symm.trans hf
              refine lv_bipush (v := (-11)) hx hb dX1_rounds_143 (by decide) ?_
              obtain ⟨hv, hu⟩ := os_pair hf
              subst hu
              exact W.iret (v := (-11)) hx hb hr (fun t ht hW => k_endi hv hP hK hD hS ht hW) hS.2.2 dX1_rounds_145
          · have hf := (if_neg c6).symm.trans hf
            refine lv_bipush (v := 8) hx hb dX1_rounds_56 (by decide) ?_
            refine lv_aload_n hx hb dX1_rounds_58 rfl (lv_at hl 0 rfl) ?_
            refine va_get (D := (dC, dI)) (ci := 1) (v := .int hn5) (C := RX1) (T := TX1) (N := 9) hx hb hts hin0 hown hK hP 0 rfl rfl 2 (by decide) hfl58 (fun _ h9 => h9) rfl dX1_rounds_59 ?_
            refine lv_imul hx hb dX1_rounds_62 ?_
            refine lv_istore (lv' := [(6, .int (8 * hn5)), (0, .ref o0), (1, .int y1), (2, .int y2), (3, .int y3), (4, .int y4), (5, .int y5)]) hx hb dX1_rounds_63 hl (by decide) rfl (fun ls hl => ?_)
            refine lv_aload_n hx hb dX1_rounds_65 rfl (lv_at hl 1 rfl) ?_
            refine va_get (D := (dC, dI)) (ci := 1) (v := .ref o2) (C := RX1) (T := TX1) (N := 9) hx hb hts hin0 hown hK hP 0 rfl rfl 1 (by decide) hfl13 (fun _ h9 => h9) rfl dX1_rounds_66 ?_
            refine lv_iload hx hb dX1_rounds_69 (lv_at hl 0 rfl) ?_
            refine lv_dup2_11 hx hb dX1_rounds_71 rfl rfl ?_
            obtain ⟨hi8, hf⟩ := og_no hf
            refine va_iald hx hb hK hP 2 1 rfl rfl hi8 dX1_rounds_72 ?_
            refine lv_iconst (v := 1) hx hb dX1_rounds_73 (by decide) ?_
            refine lv_iadd hx hb dX1_rounds_74 ?_
            obtain ⟨hi9, hf⟩ := og_no hf
            refine va_iast hx hb hK hP hD hS 2 1 rfl rfl hi9 dX1_rounds_75 (fun H locs hP hD hS => ?_)
            have hP : va_P (dC, dI) vwCl (w1 o0 o1 o2 cA cB zs5 (upd ns5 (8 * hn5).toNatClampNeg ((ns5 (8 * hn5).toNatClampNeg) + 1)) hn5 sm5 ak5 hd5 br5 dp5 de5) H := hP
            have hD : va_D A (w1 o0 o1 o2 cA cB zs5 (upd ns5 (8 * hn5).toNatClampNeg ((ns5 (8 * hn5).toNatClampNeg) + 1)) hn5 sm5 ak5 hd5 br5 dp5 de5) := hD
            refine lv_iinc (v := y3 + 1) (lv' := [(3, .int (y3 + 1)), (6, .int (8 * hn5)), (0, .ref o0), (1, .int y1), (2, .int y2), (4, .int y4), (5, .int y5)]) hx hb dX1_rounds_76 hl (k := 4) rfl (congrArg (fun t => y3 + t) (by decide)) (by decide) rfl (fun ls hl => ?_)
            refine lv_aload_n hx hb dX1_rounds_79 rfl (lv_at hl 2 rfl) ?_
            refine lv_dup hx hb dX1_rounds_80 rfl ?_
            refine va_get (D := (dC, dI)) (ci := 1) (v := .int dp5) (C := RX1) (T := TX1) (N := 9) hx hb hts hin0 hown hK hP 0 rfl rfl 7 (by decide) hfl27 (fun _ h9 => h9) rfl dX1_rounds_81 ?_
            refine lv_iconst (v := 1) hx hb dX1_rounds_84 (by decide) ?_
            refine lv_isub hx hb dX1_rounds_85 ?_
            refine va_put (D := (dC, dI)) (ci := 1) (v := .int (dp5 - 1)) (ty := .int) (C := RX1) (T := TX1) (N := 9) hx hb hts hin0 tyX1 tyX1_ok nmX1 hown hK hP hD hS 0 rfl rfl 7 (by decide) hfl27 (fun _ h9 => h9) rfl (by decide +kernel) rfl rfl (Nat.le_of_ble_eq_true rfl) dX1_rounds_86 (fun H locs hP hD hS => ?_)
            have hP : va_P (dC, dI) vwCl (w1 o0 o1 o2 cA cB zs5 (upd ns5 (8 * hn5).toNatClampNeg ((ns5 (8 * hn5).toNatClampNeg) + 1)) hn5 sm5 ak5 hd5 br5 (dp5 - 1) de5) H := hP
            have hD : va_D A (w1 o0 o1 o2 cA cB zs5 (upd ns5 (8 * hn5).toNatClampNeg ((ns5 (8 * hn5).toNatClampNeg) + 1)) hn5 sm5 ak5 hd5 br5 (dp5 - 1) de5) := hD
            refine lv_aload_n hx hb dX1_rounds_89 rfl (lv_at hl 2 rfl) ?_
            refine va_get (D := (dC, dI)) (ci := 1) (v := .ref o2) (C := RX1) (T := TX1) (N := 9) hx hb hts hin0 hown hK hP 0 rfl rfl 1 (by decide) hfl13 (fun _ h9 => h9) rfl dX1_rounds_90 ?_
            refine lv_iload hx hb dX1_rounds_93 (lv_at hl 1 rfl) ?_
            obtain ⟨hi10, hf⟩ := og_no hf
            refine va_iald hx hb hK hP 2 1 rfl rfl hi10 dX1_rounds_95 ?_
            refine lv_if_eq (tgt := 103) hx hb dX1_rounds_96 (by decide) (fun c11 => ?_) (fun c11 => ?_)
            · have hf := (if_pos c11).symm.trans hf
              refine lv_iconst (v := 0) hx hb dX1_rounds_103 (by decide) ?_
              refine lv_istore (lv' := [(4, .int 0), (3, .int (y3 + 1)), (6, .int (8 * hn5)), (0, .ref o0), (1, .int y1), (2, .int y2), (5, .int y5)]) hx hb dX1_rounds_104 hl (by decide) rfl (fun ls hl => ?_)
              refine lv_iload hx hb dX1_rounds_106 (lv_at hl 0 rfl) ?_
              refine lv_if_eq (tgt := 136) hx hb dX1_rounds_108 (by decide) (fun c12 => ?_) (fun c12 => absurd c12 (by decide))
              refine lv_goto (tgt := 146) hx hb dX1_rounds_136 (by decide) ?_
              refine lv_iinc (v := y5 + 1) (lv' := [(5, .int (y5 + 1)), (4, .int 0), (3, .int (y3 + 1)), (6, .int (8 * hn5)), (0, .ref o0), (1, .int y1), (2, .int y2)]) hx hb dX1_rounds_146 hl (k := 6) rfl (congrArg (fun t => y5 + t) (by decide)) (by decide) rfl (fun ls hl => ?_)
              refine lv_goto (tgt := 21) hx hb dX1_rounds_149 (by decide) ?_
              exact ih _ _ _ _ _ _ _ _ _ _ _ _ _ _ _ _ _ hf hP hD hS (lv_sub hl [4, 5, 6, 2, 1, 0] rfl)
            · have hf := (if_neg c11).symm.trans hf
              refine lv_iconst (v := 1) hx hb dX1_rounds_99 (by decide) ?_
              refine lv_goto (tgt := 104) hx hb dX1_rounds_100 (by decide) ?_
              refine lv_istore (lv' := [(4, .int 1), (3, .int (y3 + 1)), (6, .int (8 * hn5)), (0, .ref o0), (1, .int y1), (2, .int y2), (5, .int y5)]) hx hb dX1_rounds_104 hl (by decide) rfl (fun ls hl => ?_)
              refine lv_iload hx hb dX1_rounds_106 (lv_at hl 0 rfl) ?_
              refine lv_if_eq (tgt := 136) hx hb dX1_rounds_108 (by decide) (fun c13 => absurd c13 (by decide)) (fun c13 => ?_)
              refine lv_aload_n hx hb dX1_rounds_111 rfl (lv_at hl 3 rfl) ?_
              refine va_get (D := (dC, dI)) (ci := 1) (v := .ref o2) (C := RX1) (T := TX1) (N := 9) hx hb hts hin0 hown hK hP 0 rfl rfl 1 (by decide) hfl13 (fun _ h9 => h9) rfl dX1_rounds_112 ?_
              refine lv_iload hx hb dX1_rounds_115 (lv_at hl 2 rfl) ?_
              obtain ⟨hi14, hf⟩ := og_no hf
              refine va_iald hx hb hK hP 2 1 rfl rfl hi14 dX1_rounds_117 ?_
              refine lv_iconst (v := 2) hx hb dX1_rounds_118 (by decide) ?_
              refine lv_irem hx hb dX1_rounds_119 (by decide) ?_
              refine lv_if_ne (tgt := 136) hx hb dX1_rounds_120 (by decide) (fun c15 => ?_) (fun c15 => ?_)
              · have hf := (if_neg c15).symm.trans hf
                refine lv_goto (tgt := 146) hx hb dX1_rounds_136 (by decide) ?_
                refine lv_iinc (v := y5 + 1) (lv' := [(5, .int (y5 + 1)), (4, .int 1), (3, .int (y3 + 1)), (6, .int (8 * hn5)), (0, .ref o0), (1, .int y1), (2, .int y2)]) hx hb dX1_rounds_146 hl (k := 6) rfl (congrArg (fun t => y5 + t) (by decide)) (by decide) rfl (fun ls hl => ?_)
                refine lv_goto (tgt := 21) hx hb dX1_rounds_149 (by decide) ?_
                exact ih _ _ _ _ _ _ _ _ _ _ _ _ _ _ _ _ _ hf hP hD hS (lv_sub hl [4, 5, 6, 2, 1, 0] rfl)
              · have hf := (if_pos c15).symm.trans hf
                refine lv_aload_n hx hb dX1_rounds_123 rfl (lv_at hl 3 rfl) ?_
                refine lv_aload_n hx hb dX1_rounds_124 rfl (lv_at hl 3 rfl) ?_
                refine va_get (D := (dC, dI)) (ci := 1) (v := .int hn5) (C := RX1) (T := TX1) (N := 9) hx hb hts hin0 hown hK hP 0 rfl rfl 2 (by decide) hfl58 (fun _ h9 => h9) rfl dX1_rounds_125 ?_
                refine lv_iconst (v := 1) hx hb dX1_rounds_128 (by decide) ?_
                refine lv_iadd hx hb dX1_rounds_129 ?_
                refine lv_bipush (v := 8) hx hb dX1_rounds_130 (by decide) ?_
                refine lv_irem hx hb dX1_rounds_132 (by decide) ?_
                refine va_put (D := (dC, dI)) (ci := 1) (v := .int ((hn5 + 1) - (hn5 + 1) / 8 * 8)) (ty := .int) (C := RX1) (T := TX1) (N := 9) hx hb hts hin0 tyX1 tyX1_ok nmX1 hown hK hP hD hS 0 rfl rfl 2 (by decide) hfl58 (fun _ h9 => h9) rfl (by decide +kernel) rfl rfl (Nat.le_of_ble_eq_true rfl) dX1_rounds_133 (fun H locs hP hD hS => ?_)
                have hP : va_P (dC, dI) vwCl (w1 o0 o1 o2 cA cB zs5 (upd ns5 (8 * hn5).toNatClampNeg ((ns5 (8 * hn5).toNatClampNeg) + 1)) ((hn5 + 1) - (hn5 + 1) / 8 * 8) sm5 ak5 hd5 br5 (dp5 - 1) de5) H := hP
                have hD : va_D A (w1 o0 o1 o2 cA cB zs5 (upd ns5 (8 * hn5).toNatClampNeg ((ns5 (8 * hn5).toNatClampNeg) + 1)) ((hn5 + 1) - (hn5 + 1) / 8 * 8) sm5 ak5 hd5 br5 (dp5 - 1) de5) := hD
                refine lv_goto (tgt := 146) hx hb dX1_rounds_136 (by decide) ?_
                refine lv_iinc (v := y5 + 1) (lv' := [(5, .int (y5 + 1)), (4, .int 1), (3, .int (y3 + 1)), (6, .int (8 * hn5)), (0, .ref o0), (1, .int y1), (2, .int y2)]) hx hb dX1_rounds_146 hl (k := 6) rfl (congrArg (fun t => y5 + t) (by decide)) (by decide) rfl (fun ls hl => ?_)
                refine lv_goto (tgt := 21) hx hb dX1_rounds_149 (by decide) ?_
                exact ih _ _ _ _ _ _ _ _ _ _ _ _ _ _ _ _ _ hf hP hD hS (lv_sub hl [4, 5, 6, 2, 1, 0] rfl)
  have hl := lv_entry ([.ref o0, .int x1, .int x2]) (n := 7) (Nat.le_of_ble_eq_true rfl)
  rw [lg_entry_eq]
  generalize (lg_sl ([.ref o0, .int x1, .int x2]) ++ List.replicate (7 - (lg_sl ([.ref o0, .int x1, .int x2])).length) Slot.unset).toArray = ls at hl ⊢
  have hl : lv_has ls 7 [(0, .ref o0), (1, .int x1), (2, .int x2)] := hl
  refine lv_iload_n hx hb dX1_rounds_0 rfl (lv_at hl 1 rfl) ?_
  refine lv_iconst (v := 1) hx hb dX1_rounds_1 (by decide) ?_
  refine lv_bipush (v := 20) hx hb dX1_rounds_2 (by decide) ?_
  obtain ⟨r1, hq1, hf⟩ := ob_some hf
  try dsimp only at hf
  refine ks_i (wr := w1 o0 o1 o2 cA cB zs0 ns0 hn0 sm0 ak0 hd0 br0 dp0 de0) (As := [.int x1, .int 1, .int 20]) (rest := []) [0, 1, 2] hCF (okX1_in l hq1) (va_cwS 3 hts gX1_rounds_X1_in rfl rfl rfl ydX1_in ⟨Nat.le_of_ble_eq_true rfl, Nat.le_of_ble_eq_true rfl⟩) hK hP hD hS hA rfl rfl rfl hl.1 rfl (Nat.le_of_ble_eq_true rfl) dX1_rounds_4 ⟨Nat.zero_le _, Nat.zero_le _⟩ (fun H locs hP hD hS => ?_)
  have hP : va_P (dC, dI) vwCl (w1 o0 o1 o2 cA cB zs0 ns0 hn0 sm0 ak0 hd0 br0 dp0 de0) H := hP
  have hD : va_D A (w1 o0 o1 o2 cA cB zs0 ns0 hn0 sm0 ak0 hd0 br0 dp0 de0) := hD
  refine lv_if_ne (tgt := 13) hx hb dX1_rounds_7 (by decide) (fun c2 => ?_) (fun c2 => ?_)
  · have hf := (if_neg c2).symm.trans hf
    refine lv_iconst (v := 0) hx hb dX1_rounds_13 (by decide) ?_
    refine lv_istore_n (lv' := [(3, .int 0), (0, .ref o0), (1, .int x1), (2, .int x2)]) hx hb dX1_rounds_14 rfl hl (by decide) rfl (fun ls hl => ?_)
    refine lv_iconst (v := 1) hx hb dX1_rounds_15 (by decide) ?_
    refine lv_istore (lv' := [(4, .int 1), (3, .int 0), (0, .ref o0), (1, .int x1), (2, .int x2)]) hx hb dX1_rounds_16 hl (by decide) rfl (fun ls hl => ?_)
    refine lv_iconst (v := 0) hx hb dX1_rounds_18 (by decide) ?_
    refine lv_istore (lv' := [(5, .int 0), (4, .int 1), (3, .int 0), (0, .ref o0), (1, .int x1), (2, .int x2)]) hx hb dX1_rounds_19 hl (by decide) rfl (fun ls hl => ?_)
    exact loop21 21 _ _ _ _ _ _ _ _ _ _ _ _ _ _ _ _ _ hf hP hD hS (lv_sub hl [3, 4, 5, 2, 1, 0] rfl)
  · have hf := (if_pos c2).symm.trans hf
    refine lv_bipush (v := (-2)) hx hb dX1_rounds_10 (by decide) ?_
    obtain ⟨hv, hu⟩ := os_pair hf
    subst hu
    exact W.iret (v := (-2)) hx hb hr (fun t ht hW => k_endi hv hP hK hD hS ht hW) hS.2.2 dX1_rounds_12
set_option maxHeartbeats 4000000 in
set_option maxRecDepth 100000 in
theorem okX1_bring (l : Launch) {dC : Nat → ClassId} {dI : Nat → Nat → Nat} {o0 o1 o2 : Nat} {cA cB : ClassId} {sz : Nat} {x1 x2 : Int32} {zs0 ns0 : Nat → Int32} {hn0 : Int32} {sm0 ak0 hd0 br0 : Int64} {dp0 de0 : Int32} {r : Int32} {st2 : S1} (hf : fX1_bring x1 x2 zs0 ns0 hn0 sm0 ak0 hd0 br0 dp0 de0 = some (r, st2)) : kMi l yX1_bring wsX1_bring ({ frames := 2, cells := 0, slots := 0, locals := 42 }) (dC, dI) vwCl [(cA, .int), (cB, .int)] (w1 o0 o1 o2 cA cB zs0 ns0 hn0 sm0 ak0 hd0 br0 dp0 de0) (w1t o0 o1 o2 cA cB st2) [.ref o0, .int x1, .int x2] sz r := by
  rw [fX1_bring] at hf
  refine Met.ofW (cc := cX1_bring) (maxL := 6) (ret := (some .int)) (by decide) rfl ?_
  intro p e s m args below meth c s₁ B hml hv
  obtain ⟨rfl, hsz, hP, hK, hD0⟩ := hv
  have hx := B.exec
  have hb := B.bytes
  have hr := B.returns
  have hts := atoms_spec (ws := wsX1_bring) B.pre
  have hown : s.vm.findClass RX1 = some m.cls := findClass_of_methodNamed B.named
  have hlocks := B.notSynchronized
  subst hsz
  have hD := hD0.self (sz := s.heap.size)
  generalize hAe : va_A (w1 o0 o1 o2 cA cB zs0 ns0 hn0 sm0 ak0 hd0 br0 dp0 de0) s.heap.size = A at hD ⊢
  have hA : ∀ q : Nat, s.heap.size ≤ q → A q := fun q h => by rw [← hAe]; exact Or.inr h
  have hS : va_S A s.heap s.heap [] := va_S.rf
  have hin0 : ∀ w ∈ wsX10, w ∈ wsX1_bring := fun w h => List.mem_cons_of_mem _ (List.mem_append_right _ h)
  have hfl9 := hts (.fieldLink RX1 9 "CountRoomModel" "sizes" "[I") (by decide +kernel)
  have hfl13 := hts (.fieldLink RX1 13 "CountRoomModel" "numbers" "[I") (by decide +kernel)
  have hfl55 := hts (.fieldLink RX1 55 "CountRoomModel" "sum" "J") (by decide +kernel)
  have hCF : CallFix p m c cX1_bring 6 s _ wsX1_bring RX1 := ⟨hx, hb, hml, hown, hts⟩
  have loop26 : ∀ (k : Nat) (y1 y2 y3 y4 : Int32) (zs ns : Nat → Int32) (hn : Int32) (sm ak hd br : Int64) (dp de : Int32) (H : Heap) (locs : List Loc) (ls : Array Slot), fX1_bring_26 k y1 y2 y3 y4 zs ns hn sm ak hd br dp de = some (r, st2) → va_P (dC, dI) vwCl (w1 o0 o1 o2 cA cB zs ns hn sm ak hd br dp de) H → va_D A (w1 o0 o1 o2 cA cB zs ns hn sm ak hd br dp de) → va_S A s.heap H locs → lv_has ls 6 [(0, .ref o0), (1, .int y1), (2, .int y2), (3, .int y3), (4, .int y4)] → W p l e (headSpec wsX1_bring ({ frames := 2, cells := 0, slots := 0, locals := 42 })).room s m ([.ref o0, .int x1, .int x2] : List Value).toArray below meth c H locs 0 0 (MQ below (va_Qi (fun (r2 : Int32) (_ : Unit) => r2 = r) (k_out (dC, dI) vwCl [(cA, .int), (cB, .int)] A (w1t o0 o1 o2 cA cB st2)) A) ([.ref o0, .int x1, .int x2] : List Value).toArray s 0 0 A) (F0 m 26 ls []) := by
    intro k
    induction k with
    | zero => intro y1 y2 y3 y4 zs ns hn sm ak hd br dp de H locs ls hf; cases hf
    | succ k ih =>
      intro y1 y2 y3 y4 zs ns hn sm ak hd br dp de H locs ls hf hP hD hS hl
      rw [fX1_bring_26] at hf
      refine lv_iload hx hb dX1_bring_26 (lv_at hl 4 rfl) ?_
      refine lv_if_eq (tgt := 111) hx hb dX1_bring_28 (by decide) (fun c5 => ?_) (fun c5 => ?_)
      · have hf := (if_pos c5).symm.trans hf
        refine lv_aload_n hx hb dX1_bring_111 rfl (lv_at hl 0 rfl) ?_
        refine lv_iconst (v := 1) hx hb dX1_bring_112 (by decide) ?_
        refine lv_iconst (v := 0) hx hb dX1_bring_113 (by decide) ?_
        obtain ⟨⟨r6, zs6, ns6, hn6, sm6, ak6, hd6, br6, dp6, de6⟩, hq6, hf⟩ := ob_some hf
        try dsimp only at hf
        refine kc_i (wr := []) (As := [.int 1, .int 0]) (rest := []) [0, 1, 2] [] [0, 1] 1 0 hCF (okX1_ends l hq6) (cwV 2 hts gX1_bring_X1_ends rfl rfl rfl ydX1_ends ⟨Nat.le_of_ble_eq_true rfl, Nat.le_of_ble_eq_true rfl⟩) hK hP hD hS hA rfl rfl rfl rfl rfl (fun _ h => by cases h) rfl rfl rfl rfl hl.1 rfl (Nat.le_of_ble_eq_true rfl) dX1_bring_114 ⟨Nat.zero_le _, Nat.zero_le _⟩ (fun H locs hP hD hS => ?_)
        have hP : va_P (dC, dI) vwCl (w1 o0 o1 o2 cA cB zs6 ns6 hn6 sm6 ak6 hd6 br6 dp6 de6) H := hP
        have hD : va_D A (w1 o0 o1 o2 cA cB zs6 ns6 hn6 sm6 ak6 hd6 br6 dp6 de6) := hD
        refine lv_iload_n hx hb dX1_bring_117 rfl (lv_at hl 3 rfl) ?_
        refine lv_iadd hx hb dX1_bring_118 ?_
        obtain ⟨hv, hu⟩ := os_pair hf
        subst hu
        exact W.iret (v := r6 + y3) hx hb hr (fun t ht hW => k_endi hv hP hK hD hS ht hW) hS.2.2 dX1_bring_119
      · have hf := (if_neg c5).symm.trans hf
        refine lv_iload_n hx hb dX1_bring_31 rfl (lv_at hl 3 rfl) ?_
        refine lv_aload_n hx hb dX1_bring_32 rfl (lv_at hl 0 rfl) ?_
        refine va_get (D := (dC, dI)) (ci := 1) (v := .ref o1) (C := RX1) (T := TX1) (N := 9) hx hb hts hin0 hown hK hP 0 rfl rfl 0 (by decide) hfl9 (fun _ h9 => h9) rfl dX1_bring_33 ?_
        refine lv_iload_n hx hb dX1_bring_36 rfl (lv_at hl 1 rfl) ?_
        obtain ⟨hi7, hf⟩ := og_no hf
        refine va_iald hx hb hK hP 1 0 rfl rfl hi7 dX1_bring_37 ?_
        refine lv_icmp_ge (tgt := 111) hx hb dX1_bring_38 (by decide) (fun c8 => ?_) (fun c8 => ?_)
        · have hf := (if_pos c8).symm.trans hf
          refine lv_aload_n hx hb dX1_bring_111 rfl (lv_at hl 0 rfl) ?_
          refine lv_iconst (v := 1) hx hb dX1_bring_112 (by decide) ?_
          refine lv_iconst (v := 0) hx hb dX1_bring_113 (by decide) ?_
          obtain ⟨⟨r9, zs9, ns9, hn9, sm9, ak9, hd9, br9, dp9, de9⟩, hq9, hf⟩ := ob_some hf
          try dsimp only at hf
          refine kc_i (wr := []) (As := [.int 1, .int 0]) (rest := []) [0, 1, 2] [] [0, 1] 1 0 hCF (okX1_ends l hq9) (cwV 2 hts gX1_bring_X1_ends rfl rfl rfl ydX1_ends ⟨Nat.le_of_ble_eq_true rfl, Nat.le_of_ble_eq_true rfl⟩) hK hP hD hS hA rfl rfl rfl rfl rfl (fun _ h => by cases h) rfl rfl rfl rfl hl.1 rfl (Nat.le_of_ble_eq_true rfl) dX1_bring_114 ⟨Nat.zero_le _, Nat.zero_le _⟩ (fun H locs hP hD hS => ?_)
          have hP : va_P (dC, dI) vwCl (w1 o0 o1 o2 cA cB zs9 ns9 hn9 sm9 ak9 hd9 br9 dp9 de9) H := hP
          have hD : va_D A (w1 o0 o1 o2 cA cB zs9 ns9 hn9 sm9 ak9 hd9 br9 dp9 de9) := hD
          refine lv_iload_n hx hb dX1_bring_117 rfl (lv_at hl 3 rfl) ?_
          refine lv_iadd hx hb dX1_bring_118 ?_
          obtain ⟨hv, hu⟩ := os_pair hf
          subst hu
          exact W.iret (v := r9 + y3) hx hb hr (fun t ht hW => k_endi hv hP hK hD hS ht hW) hS.2.2 dX1_bring_119
        · have hf := (if_neg c8).symm.trans hf
          refine lv_bipush (v := 8) hx hb dX1_bring_41 (by decide) ?_
          refine lv_iload_n hx hb dX1_bring_43 rfl (lv_at hl 1 rfl) ?_
          refine lv_imul hx hb dX1_bring_44 ?_
          refine lv_iload_n hx hb dX1_bring_45 rfl (lv_at hl 3 rfl) ?_
          refine lv_iadd hx hb dX1_bring_46 ?_
          refine lv_istore (lv' := [(5, .int ((8 * y1) + y3)), (0, .ref o0), (1, .int y1), (2, .int y2), (3, .int y3), (4, .int y4)]) hx hb dX1_bring_47 hl (by decide) rfl (fun ls hl => ?_)
          refine lv_aload_n hx hb dX1_bring_49 rfl (lv_at hl 1 rfl) ?_
          refine lv_dup hx hb dX1_bring_50 rfl ?_
          refine va_get (D := (dC, dI)) (ci := 1) (v := .long sm) (C := RX1) (T := TX1) (N := 9) hx hb hts hin0 hown hK hP 0 rfl rfl 3 (by decide) hfl55 (fun _ h9 => h9) rfl dX1_bring_51 ?_
          refine lv_aload_n hx hb dX1_bring_54 rfl (lv_at hl 1 rfl) ?_
          refine va_get (D := (dC, dI)) (ci := 1) (v := .ref o2) (C := RX1) (T := TX1) (N := 9) hx hb hts hin0 hown hK hP 0 rfl rfl 1 (by decide) hfl13 (fun _ h9 => h9) rfl dX1_bring_55 ?_
          refine lv_iload hx hb dX1_bring_58 (lv_at hl 0 rfl) ?_
          obtain ⟨hi10, hf⟩ := og_no hf
          refine va_iald hx hb hK hP 2 1 rfl rfl hi10 dX1_bring_60 ?_
          refine lv_i2l hx hb dX1_bring_61 rfl ?_
          refine lv_ladd hx hb dX1_bring_62 ?_
          refine va_put (D := (dC, dI)) (ci := 1) (v := .long (sm + ((ns ((8 * y1) + y3).toNatClampNeg).toInt64))) (ty := .long) (C := RX1) (T := TX1) (N := 9) hx hb hts hin0 tyX1 tyX1_ok nmX1 hown hK hP hD hS 0 rfl rfl 3 (by decide) hfl55 (fun _ h9 => h9) rfl (by decide +kernel) rfl rfl (Nat.le_of_ble_eq_true rfl) dX1_bring_63 (fun H locs hP hD hS => ?_)
          have hP : va_P (dC, dI) vwCl (w1 o0 o1 o2 cA cB zs ns hn (sm + ((ns ((8 * y1) + y3).toNatClampNeg).toInt64)) ak hd br dp de) H := hP
          have hD : va_D A (w1 o0 o1 o2 cA cB zs ns hn (sm + ((ns ((8 * y1) + y3).toNatClampNeg).toInt64)) ak hd br dp de) := hD
          refine lv_aload_n hx hb dX1_bring_66 rfl (lv_at hl 1 rfl) ?_
          refine va_get (D := (dC, dI)) (ci := 1) (v := .ref o2) (C := RX1) (T := TX1) (N := 9) hx hb hts hin0 hown hK hP 0 rfl rfl 1 (by decide) hfl13 (fun _ h9 => h9) rfl dX1_bring_67 ?_
          refine lv_iload hx hb dX1_bring_70 (lv_at hl 0 rfl) ?_
          obtain ⟨hi11, hf⟩ := og_no hf
          refine va_iald hx hb hK hP 2 1 rfl rfl hi11 dX1_bring_72 ?_
          refine lv_if_lt (tgt := 80) hx hb dX1_bring_73 (by decide) (fun c12 => ?_) (fun c12 => ?_)
          · have hf := (if_pos c12).symm.trans hf
            refine lv_iconst (v := 0) hx hb dX1_bring_80 (by decide) ?_
            refine lv_istore (lv' := [(4, .int 0), (5, .int ((8 * y1) + y3)), (0, .ref o0), (1, .int y1), (2, .int y2), (3, .int y3)]) hx hb dX1_bring_81 hl (by decide) rfl (fun ls hl => ?_)
            refine lv_aload_n hx hb dX1_bring_83 rfl (lv_at hl 2 rfl) ?_
            refine va_get (D := (dC, dI)) (ci := 1) (v := .ref o2) (C := RX1) (T := TX1) (N := 9) hx hb hts hin0 hown hK hP 0 rfl rfl 1 (by decide) hfl13 (fun _ h9 => h9) rfl dX1_bring_84 ?_
            refine lv_iload hx hb dX1_bring_87 (lv_at hl 1 rfl) ?_
            refine lv_iload_n hx hb dX1_bring_89 rfl (lv_at hl 4 rfl) ?_
            refine lv_if_eq (tgt := 103) hx hb dX1_bring_90 (by decide) (fun c13 => ?_) (fun c13 => ?_)
            · have hf := (if_pos c13).symm.trans hf
              refine lv_iconst (v := 0) hx hb dX1_bring_103 (by decide) ?_
              obtain ⟨hi14, hf⟩ := og_no hf
              refine va_iast hx hb hK hP hD hS 2 1 rfl rfl hi14 dX1_bring_104 (fun H locs hP hD hS => ?_)
              have hP : va_P (dC, dI) vwCl (w1 o0 o1 o2 cA cB zs (upd ns ((8 * y1) + y3).toNatClampNeg 0) hn (sm + ((ns ((8 * y1) + y3).toNatClampNeg).toInt64)) ak hd br dp de) H := hP
              have hD : va_D A (w1 o0 o1 o2 cA cB zs (upd ns ((8 * y1) + y3).toNatClampNeg 0) hn (sm + ((ns ((8 * y1) + y3).toNatClampNeg).toInt64)) ak hd br dp de) := hD
              refine lv_iinc (v := y3 + 1) (lv' := [(3, .int (y3 + 1)), (4, .int 0), (5, .int ((8 * y1) + y3)), (0, .ref o0), (1, .int y1), (2, .int y2)]) hx hb dX1_bring_105 hl (k := 5) rfl (congrArg (fun t => y3 + t) (by decide)) (by decide) rfl (fun ls hl => ?_)
              refine lv_goto (tgt := 26) hx hb dX1_bring_108 (by decide) ?_
              exact ih _ _ _ _ _ _ _ _ _ _ _ _ _ _ _ _ hf hP hD hS (lv_sub hl [3, 4, 5, 0, 1] rfl)
            · have hf := (if_neg c13).symm.trans hf
              refine lv_aload_n hx hb dX1_bring_93 rfl (lv_at hl 2 rfl) ?_
              refine va_get (D := (dC, dI)) (ci := 1) (v := .ref o2) (C := RX1) (T := TX1) (N := 9) hx hb hts hin0 hown hK hP 0 rfl rfl 1 (by decide) hfl13 (fun _ h9 => h9) rfl dX1_bring_94 ?_
              refine lv_iload hx hb dX1_bring_97 (lv_at hl 1 rfl) ?_
              obtain ⟨hi15, hf⟩ := og_no hf
              refine va_iald hx hb hK hP 2 1 rfl rfl hi15 dX1_bring_99 ?_
              refine lv_goto (tgt := 104) hx hb dX1_bring_100 (by decide) ?_
              obtain ⟨hi16, hf⟩ := og_no hf
              refine va_iast hx hb hK hP hD hS 2 1 rfl rfl hi16 dX1_bring_104 (fun H locs hP hD hS => ?_)
              have hP : va_P (dC, dI) vwCl (w1 o0 o1 o2 cA cB zs (upd ns ((8 * y1) + y3).toNatClampNeg (ns ((8 * y1) + y3).toNatClampNeg)) hn (sm + ((ns ((8 * y1) + y3).toNatClampNeg).toInt64)) ak hd br dp de) H := hP
              have hD : va_D A (w1 o0 o1 o2 cA cB zs (upd ns ((8 * y1) + y3).toNatClampNeg (ns ((8 * y1) + y3).toNatClampNeg)) hn (sm + ((ns ((8 * y1) + y3).toNatClampNeg).toInt64)) ak hd br dp de) := hD
              refine lv_iinc (v := y3 + 1) (lv' := [(3, .int (y3 + 1)), (4, .int 0), (5, .int ((8 * y1) + y3)), (0, .ref o0), (1, .int y1), (2, .int y2)]) hx hb dX1_bring_105 hl (k := 5) rfl (congrArg (fun t => y3 + t) (by decide)) (by decide) rfl (fun ls hl => ?_)
              refine lv_goto (tgt := 26) hx hb dX1_bring_108 (by decide) ?_
              exact ih _ _ _ _ _ _ _ _ _ _ _ _ _ _ _ _ hf hP hD hS (lv_sub hl [3, 4, 5, 0, 1] rfl)
          · have hf := (if_neg c12).symm.trans hf
            refine lv_iconst (v := 1) hx hb dX1_bring_76 (by decide) ?_
            refine lv_goto (tgt := 81) hx hb dX1_bring_77 (by decide) ?_
            refine lv_istore (lv' := [(4, .int 1), (5, .int ((8 * y1) + y3)), (0, .ref o0), (1, .int y1), (2, .int y2), (3, .int y3)]) hx hb dX1_bring_81 hl (by decide) rfl (fun ls hl => ?_)
            refine lv_aload_n hx hb dX1_bring_83 rfl (lv_at hl 2 rfl) ?_
            refine va_get (D := (dC, dI)) (ci := 1) (v := .ref o2) (C := RX1) (T := TX1) (N := 9) hx hb hts hin0 hown hK hP 0 rfl rfl 1 (by decide) hfl13 (fun _ h9 => h9) rfl dX1_bring_84 ?_
            refine lv_iload hx hb dX1_bring_87 (lv_at hl 1 rfl) ?_
            refine lv_iload_n hx hb dX1_bring_89 rfl (lv_at hl 4 rfl) ?_
            refine lv_if_eq (tgt := 103) hx hb dX1_bring_90 (by decide) (fun c17 => ?_) (fun c17 => ?_)
            · have hf := (if_pos c17).symm.trans hf
              refine lv_iconst (v := 0) hx hb dX1_bring_103 (by decide) ?_
              obtain ⟨hi18, hf⟩ := og_no hf
              refine va_iast hx hb hK hP hD hS 2 1 rfl rfl hi18 dX1_bring_104 (fun H locs hP hD hS => ?_)
              have hP : va_P (dC, dI) vwCl (w1 o0 o1 o2 cA cB zs (upd ns ((8 * y1) + y3).toNatClampNeg 0) hn (sm + ((ns ((8 * y1) + y3).toNatClampNeg).toInt64)) ak hd br dp de) H := hP
              have hD : va_D A (w1 o0 o1 o2 cA cB zs (upd ns ((8 * y1) + y3).toNatClampNeg 0) hn (sm + ((ns ((8 * y1) + y3).toNatClampNeg).toInt64)) ak hd br dp de) := hD
              refine lv_iinc (v := y3 + 1) (lv' := [(3, .int (y3 + 1)), (4, .int 1), (5, .int ((8 * y1) + y3)), (0, .ref o0), (1, .int y1), (2, .int y2)]) hx hb dX1_bring_105 hl (k := 5) rfl (congrArg (fun t => y3 + t) (by decide)) (by decide) rfl (fun ls hl => ?_)
              refine lv_goto (tgt := 26) hx hb dX1_bring_108 (by decide) ?_
              exact ih _ _ _ _ _ _ _ _ _ _ _ _ _ _ _ _ hf hP hD hS (lv_sub hl [3, 4, 5, 0, 1] rfl)
            · have hf := (if_neg c17).symm.trans hf
              refine lv_aload_n hx hb dX1_bring_93 rfl (lv_at hl 2 rfl) ?_
              refine va_get (D := (dC, dI)) (ci := 1) (v := .ref o2) (C := RX1) (T := TX1) (N := 9) hx hb hts hin0 hown hK hP 0 rfl rfl 1 (by decide) hfl13 (fun _ h9 => h9) rfl dX1_bring_94 ?_
              refine lv_iload hx hb dX1_bring_97 (lv_at hl 1 rfl) ?_
              obtain ⟨hi19, hf⟩ := og_no hf
              refine va_iald hx hb hK hP 2 1 rfl rfl hi19 dX1_bring_99 ?_
              refine lv_goto (tgt := 104) hx hb dX1_bring_100 (by decide) ?_
              obtain ⟨hi20, hf⟩ := og_no hf
              refine va_iast hx hb hK hP hD hS 2 1 rfl rfl hi20 dX1_bring_104 (fun H locs hP hD hS => ?_)
              have hP : va_P (dC, dI) vwCl (w1 o0 o1 o2 cA cB zs (upd ns ((8 * y1) + y3).toNatClampNeg (ns ((8 * y1) + y3).toNatClampNeg)) hn (sm + ((ns ((8 * y1) + y3).toNatClampNeg).toInt64)) ak hd br dp de) H := hP
              have hD : va_D A (w1 o0 o1 o2 cA cB zs (upd ns ((8 * y1) + y3).toNatClampNeg (ns ((8 * y1) + y3).toNatClampNeg)) hn (sm + ((ns ((8 * y1) + y3).toNatClampNeg).toInt64)) ak hd br dp de) := hD
              refine lv_iinc (v := y3 + 1) (lv' := [(3, .int (y3 + 1)), (4, .int 1), (5, .int ((8 * y1) + y3)), (0, .ref o0), (1, .int y1), (2, .int y2)]) hx hb dX1_bring_105 hl (k := 5) rfl (congrArg (fun t => y3 + t) (by decide)) (by decide) rfl (fun ls hl => ?_)
              refine lv_goto (tgt := 26) hx hb dX1_bring_108 (by decide) ?_
              exact ih _ _ _ _ _ _ _ _ _ _ _ _ _ _ _ _ hf hP hD hS (lv_sub hl [3, 4, 5, 0, 1] rfl)
  have hl := lv_entry ([.ref o0, .int x1, .int x2]) (n := 6) (Nat.le_of_ble_eq_true rfl)
  rw [lg_entry_eq]
  generalize (lg_sl ([.ref o0, .int x1, .int x2]) ++ List.replicate (6 - (lg_sl ([.ref o0, .int x1, .int x2])).length) Slot.unset).toArray = ls at hl ⊢
  have hl : lv_has ls 6 [(0, .ref o0), (1, .int x1), (2, .int x2)] := hl
  refine lv_iload_n hx hb dX1_bring_0 rfl (lv_at hl 1 rfl) ?_
  obtain ⟨r1, hq1, hf⟩ := ob_some hf
  try dsimp only at hf
  refine ks_i (wr := w1 o0 o1 o2 cA cB zs0 ns0 hn0 sm0 ak0 hd0 br0 dp0 de0) (As := [.int x1]) (rest := []) [0, 1, 2] hCF (okX1_isDesk l hq1) (va_cwS 1 hts gX1_bring_X1_isDesk rfl rfl rfl ydX1_isDesk ⟨Nat.le_of_ble_eq_true rfl, Nat.le_of_ble_eq_true rfl⟩) hK hP hD hS hA rfl rfl rfl hl.1 rfl (Nat.le_of_ble_eq_true rfl) dX1_bring_1 ⟨Nat.zero_le _, Nat.zero_le _⟩ (fun H locs hP hD hS => ?_)
  have hP : va_P (dC, dI) vwCl (w1 o0 o1 o2 cA cB zs0 ns0 hn0 sm0 ak0 hd0 br0 dp0 de0) H := hP
  have hD : va_D A (w1 o0 o1 o2 cA cB zs0 ns0 hn0 sm0 ak0 hd0 br0 dp0 de0) := hD
  refine lv_if_ne (tgt := 10) hx hb dX1_bring_4 (by decide) (fun c2 => ?_) (fun c2 => ?_)
  · have hf := (if_neg c2).symm.trans hf
    refine lv_aload_n hx hb dX1_bring_10 rfl (lv_at hl 0 rfl) ?_
    refine lv_iload_n hx hb dX1_bring_11 rfl (lv_at hl 1 rfl) ?_
    obtain ⟨⟨r3, zs3, ns3, hn3, sm3, ak3, hd3, br3, dp3, de3⟩, hq3, hf⟩ := ob_some hf
    try dsimp only at hf
    refine kc_i (wr := []) (As := [.int x1]) (rest := []) [0, 1, 2] [] [0, 1] 1 0 hCF (okX1_holds l hq3) (cwV 1 hts gX1_bring_X1_holds rfl rfl rfl ydX1_holds ⟨Nat.le_of_ble_eq_true rfl, Nat.le_of_ble_eq_true rfl⟩) hK hP hD hS hA rfl rfl rfl rfl rfl (fun _ h => by cases h) rfl rfl rfl rfl hl.1 rfl (Nat.le_of_ble_eq_true rfl) dX1_bring_12 ⟨Nat.zero_le _, Nat.zero_le _⟩ (fun H locs hP hD hS => ?_)
    have hP : va_P (dC, dI) vwCl (w1 o0 o1 o2 cA cB zs3 ns3 hn3 sm3 ak3 hd3 br3 dp3 de3) H := hP
    have hD : va_D A (w1 o0 o1 o2 cA cB zs3 ns3 hn3 sm3 ak3 hd3 br3 dp3 de3) := hD
    refine lv_if_ne (tgt := 21) hx hb dX1_bring_15 (by decide) (fun c4 => ?_) (fun c4 => ?_)
    · have hf := (if_neg c4).symm.trans hf
      refine lv_iconst (v := 0) hx hb dX1_bring_21 (by decide) ?_
      refine lv_istore_n (lv' := [(3, .int 0), (0, .ref o0), (1, .int x1), (2, .int x2)]) hx hb dX1_bring_22 rfl hl (by decide) rfl (fun ls hl => ?_)
      refine lv_iconst (v := 1) hx hb dX1_bring_23 (by decide) ?_
      refine lv_istore (lv' := [(4, .int 1), (3, .int 0), (0, .ref o0), (1, .int x1), (2, .int x2)]) hx hb dX1_bring_24 hl (by decide) rfl (fun ls hl => ?_)
      exact loop26 9 _ _ _ _ _ _ _ _ _ _ _ _ _ _ _ _ hf hP hD hS (lv_sub hl [2, 3, 4, 1, 0] rfl)
    · have hf := (if_pos c4).symm.trans hf
      refine lv_bipush (v := (-11)) hx hb dX1_bring_18 (by decide) ?_
      obtain ⟨hv, hu⟩ := os_pair hf
      subst hu
      exact W.iret (v := (-11)) hx hb hr (fun t ht hW => k_endi hv hP hK hD hS ht hW) hS.2.2 dX1_bring_20
  · have hf := (if_pos c2).symm.trans hf
    refine lv_bipush (v := (-2)) hx hb dX1_bring_7 (by decide) ?_
    obtain ⟨hv, hu⟩ := os_pair hf
    subst hu
    exact W.iret (v := (-2)) hx hb hr (fun t ht hW => k_endi hv hP hK hD hS ht hW) hS.2.2 dX1_bring_9
set_option maxHeartbeats 4000000 in
set_option maxRecDepth 100000 in
theorem okX1_number (l : Launch) {dC : Nat → ClassId} {dI : Nat → Nat → Nat} {o0 o1 o2 : Nat} {cA cB : ClassId} {sz : Nat} {x1 x2 : Int32} {zs0 ns0 : Nat → Int32} {hn0 : Int32} {sm0 ak0 hd0 br0 : Int64} {dp0 de0 : Int32} {r : Int64} (hf : fX1_number x1 x2 zs0 ns0 hn0 sm0 ak0 hd0 br0 dp0 de0 = some r) : kMl l yX1_number wsX1_number ({ frames := 2, cells := 0, slots := 0, locals := 44 }) (dC, dI) vwCl [(cA, .int), (cB, .int)] (w1 o0 o1 o2 cA cB zs0 ns0 hn0 sm0 ak0 hd0 br0 dp0 de0) (w1 o0 o1 o2 cA cB zs0 ns0 hn0 sm0 ak0 hd0 br0 dp0 de0) [.ref o0, .int x1, .int x2] sz r := by
  rw [fX1_number] at hf
  refine Met.ofW (cc := cX1_number) (maxL := 3) (ret := (some .long)) (by decide) rfl ?_
  intro p e s m args below meth c s₁ B hml hv
  obtain ⟨rfl, hsz, hP, hK, hD0⟩ := hv
  have hx := B.exec
  have hb := B.bytes
  have hr := B.returns
  have hts := atoms_spec (ws := wsX1_number) B.pre
  have hown : s.vm.findClass RX1 = some m.cls := findClass_of_methodNamed B.named
  have hlocks := B.notSynchronized
  subst hsz
  have hD := hD0.self (sz := s.heap.size)
  generalize hAe : va_A (w1 o0 o1 o2 cA cB zs0 ns0 hn0 sm0 ak0 hd0 br0 dp0 de0) s.heap.size = A at hD ⊢
  have hA : ∀ q : Nat, s.heap.size ≤ q → A q := fun q h => by rw [← hAe]; exact Or.inr h
  have hS : va_S A s.heap s.heap [] := va_S.rf
  have hin0 : ∀ w ∈ wsX10, w ∈ wsX1_number := fun w h => List.mem_cons_of_mem _ (List.mem_append_right _ h)
  have hfl13 := hts (.fieldLink RX1 13 "CountRoomModel" "numbers" "[I") (by decide +kernel)
  have hCF : CallFix p m c cX1_number 3 s _ wsX1_number RX1 := ⟨hx, hb, hml, hown, hts⟩
  have hl := lv_entry ([.ref o0, .int x1, .int x2]) (n := 3) (Nat.le_of_ble_eq_true rfl)
  rw [lg_entry_eq]
  generalize (lg_sl ([.ref o0, .int x1, .int x2]) ++ List.replicate (3 - (lg_sl ([.ref o0, .int x1, .int x2])).length) Slot.unset).toArray = ls at hl ⊢
  have hl : lv_has ls 3 [(0, .ref o0), (1, .int x1), (2, .int x2)] := hl
  refine lv_iload_n hx hb dX1_number_0 rfl (lv_at hl 1 rfl) ?_
  obtain ⟨r1, hq1, hf⟩ := ob_some hf
  try dsimp only at hf
  refine ks_i (wr := w1 o0 o1 o2 cA cB zs0 ns0 hn0 sm0 ak0 hd0 br0 dp0 de0) (As := [.int x1]) (rest := []) [0, 1, 2] hCF (okX1_isDesk l hq1) (va_cwS 1 hts gX1_number_X1_isDesk rfl rfl rfl ydX1_isDesk ⟨Nat.le_of_ble_eq_true rfl, Nat.le_of_ble_eq_true rfl⟩) hK hP hD hS hA rfl rfl rfl hl.1 rfl (Nat.le_of_ble_eq_true rfl) dX1_number_1 ⟨Nat.zero_le _, Nat.zero_le _⟩ (fun H locs hP hD hS => ?_)
  have hP : va_P (dC, dI) vwCl (w1 o0 o1 o2 cA cB zs0 ns0 hn0 sm0 ak0 hd0 br0 dp0 de0) H := hP
  have hD : va_D A (w1 o0 o1 o2 cA cB zs0 ns0 hn0 sm0 ak0 hd0 br0 dp0 de0) := hD
  refine lv_if_eq (tgt := 31) hx hb dX1_number_4 (by decide) (fun c2 => ?_) (fun c2 => ?_)
  · have hf := (if_pos c2).symm.trans hf
    refine lv_ldc2 (v := (-9223372036854775808)) hx hb hown (hts (.constantLong RX1 61 (-9223372036854775808)) (by decide +kernel)) dX1_number_31 ?_
    have hv := Option.some.inj hf
    exact W.lret (v := (-9223372036854775808)) hx hb hr (fun t ht hW => k_endl hv hP hK hD hS ht hW) hS.2.2 dX1_number_34
  · have hf := (if_neg c2).symm.trans hf
    refine lv_aload_n hx hb dX1_number_7 rfl (lv_at hl 0 rfl) ?_
    refine lv_iload_n hx hb dX1_number_8 rfl (lv_at hl 1 rfl) ?_
    refine lv_iload_n hx hb dX1_number_9 rfl (lv_at hl 2 rfl) ?_
    obtain ⟨r3, hq3, hf⟩ := ob_some hf
    try dsimp only at hf
    refine kc_i (wr := []) (As := [.int x1, .int x2]) (rest := []) [0, 1, 2] [] [0, 1] 1 0 hCF (okX1_isPlace l hq3) (cwV 2 hts gX1_number_X1_isPlace rfl rfl rfl ydX1_isPlace ⟨Nat.le_of_ble_eq_true rfl, Nat.le_of_ble_eq_true rfl⟩) hK hP hD hS hA rfl rfl rfl rfl rfl (fun _ h => by cases h) rfl rfl rfl rfl hl.1 rfl (Nat.le_of_ble_eq_true rfl) dX1_number_10 ⟨Nat.zero_le _, Nat.zero_le _⟩ (fun H locs hP hD hS => ?_)
    have hP : va_P (dC, dI) vwCl (w1 o0 o1 o2 cA cB zs0 ns0 hn0 sm0 ak0 hd0 br0 dp0 de0) H := hP
    have hD : va_D A (w1 o0 o1 o2 cA cB zs0 ns0 hn0 sm0 ak0 hd0 br0 dp0 de0) := hD
    refine lv_if_eq (tgt := 31) hx hb dX1_number_13 (by decide) (fun c4 => ?_) (fun c4 => ?_)
    · have hf := (if_pos c4).symm.trans hf
      refine lv_ldc2 (v := (-9223372036854775808)) hx hb hown (hts (.constantLong RX1 61 (-9223372036854775808)) (by decide +kernel)) dX1_number_31 ?_
      have hv := Option.some.inj hf
      exact W.lret (v := (-9223372036854775808)) hx hb hr (fun t ht hW => k_endl hv hP hK hD hS ht hW) hS.2.2 dX1_number_34
    · have hf := (if_neg c4).symm.trans hf
      refine lv_aload_n hx hb dX1_number_16 rfl (lv_at hl 0 rfl) ?_
      refine va_get (D := (dC, dI)) (ci := 1) (v := .ref o2) (C := RX1) (T := TX1) (N := 9) hx hb hts hin0 hown hK hP 0 rfl rfl 1 (by decide) hfl13 (fun _ h9 => h9) rfl dX1_number_17 ?_
      refine lv_bipush (v := 8) hx hb dX1_number_20 (by decide) ?_
      refine lv_iload_n hx hb dX1_number_22 rfl (lv_at hl 1 rfl) ?_
      refine lv_imul hx hb dX1_number_23 ?_
      refine lv_iload_n hx hb dX1_number_24 rfl (lv_at hl 2 rfl) ?_
      refine lv_iadd hx hb dX1_number_25 ?_
      obtain ⟨hi5, hf⟩ := og_no hf
      refine va_iald hx hb hK hP 2 1 rfl rfl hi5 dX1_number_26 ?_
      refine lv_i2l hx hb dX1_number_27 rfl ?_
      refine lv_goto (tgt := 34) hx hb dX1_number_28 (by decide) ?_
      have hv := Option.some.inj hf
      exact W.lret (v := (ns0 ((8 * x1) + x2).toNatClampNeg).toInt64) hx hb hr (fun t ht hW => k_endl hv hP hK hD hS ht hW) hS.2.2 dX1_number_34
set_option maxHeartbeats 4000000 in
set_option maxRecDepth 100000 in
theorem okX1_told (l : Launch) {dC : Nat → ClassId} {dI : Nat → Nat → Nat} {o0 o1 o2 : Nat} {cA cB : ClassId} {sz : Nat} {x1 : Int32} {zs0 ns0 : Nat → Int32} {hn0 : Int32} {sm0 ak0 hd0 br0 : Int64} {dp0 de0 : Int32} {r : Int64} (hf : fX1_told x1 zs0 ns0 hn0 sm0 ak0 hd0 br0 dp0 de0 = some r) : kMl l yX1_told wsX1_told ({ frames := 0, cells := 0, slots := 0, locals := 0 }) (dC, dI) vwCl [(cA, .int), (cB, .int)] (w1 o0 o1 o2 cA cB zs0 ns0 hn0 sm0 ak0 hd0 br0 dp0 de0) (w1 o0 o1 o2 cA cB zs0 ns0 hn0 sm0 ak0 hd0 br0 dp0 de0) [.ref o0, .int x1] sz r := by
  rw [fX1_told] at hf
  refine Met.ofW (cc := cX1_told) (maxL := 4) (ret := (some .long)) (by decide) rfl ?_
  intro p e s m args below meth c s₁ B hml hv
  obtain ⟨rfl, hsz, hP, hK, hD0⟩ := hv
  have hx := B.exec
  have hb := B.bytes
  have hr := B.returns
  have hts := atoms_spec (ws := wsX1_told) B.pre
  have hown : s.vm.findClass RX1 = some m.cls := findClass_of_methodNamed B.named
  have hlocks := B.notSynchronized
  subst hsz
  have hD := hD0.self (sz := s.heap.size)
  generalize hAe : va_A (w1 o0 o1 o2 cA cB zs0 ns0 hn0 sm0 ak0 hd0 br0 dp0 de0) s.heap.size = A at hD ⊢
  have hA : ∀ q : Nat, s.heap.size ≤ q → A q := fun q h => by rw [← hAe]; exact Or.inr h
  have hS : va_S A s.heap s.heap [] := va_S.rf
  have hin0 : ∀ w ∈ wsX10, w ∈ wsX1_told := fun w h => List.mem_cons_of_mem _ (List.mem_append_right _ h)
  have hfl9 := hts (.fieldLink RX1 9 "CountRoomModel" "sizes" "[I") (by decide +kernel)
  have hfl20 := hts (.fieldLink RX1 20 "CountRoomModel" "asked" "J") (by decide +kernel)
  have hfl24 := hts (.fieldLink RX1 24 "CountRoomModel" "held" "J") (by decide +kernel)
  have hfl27 := hts (.fieldLink RX1 27 "CountRoomModel" "depth" "I") (by decide +kernel)
  have hfl31 := hts (.fieldLink RX1 31 "CountRoomModel" "deepest" "I") (by decide +kernel)
  have hfl34 := hts (.fieldLink RX1 34 "CountRoomModel" "broken" "J") (by decide +kernel)
  have hfl55 := hts (.fieldLink RX1 55 "CountRoomModel" "sum" "J") (by decide +kernel)
  have hfl58 := hts (.fieldLink RX1 58 "CountRoomModel" "hand" "I") (by decide +kernel)
  have hCF : CallFix p m c cX1_told 4 s _ wsX1_told RX1 := ⟨hx, hb, hml, hown, hts⟩
  have loop4 : ∀ (k : Nat) (y1 y2 y3 : Int32) (H : Heap) (locs : List Loc) (ls : Array Slot), fX1_told_4 k y1 y2 y3 zs0 ns0 hn0 sm0 ak0 hd0 br0 dp0 de0 = some r → va_P (dC, dI) vwCl (w1 o0 o1 o2 cA cB zs0 ns0 hn0 sm0 ak0 hd0 br0 dp0 de0) H → va_D A (w1 o0 o1 o2 cA cB zs0 ns0 hn0 sm0 ak0 hd0 br0 dp0 de0) → va_S A s.heap H locs → lv_has ls 4 [(0, .ref o0), (1, .int y1), (2, .int y2), (3, .int y3)] → W p l e (headSpec wsX1_told ({ frames := 0, cells := 0, slots := 0, locals := 0 })).room s m ([.ref o0, .int x1] : List Value).toArray below meth c H locs 0 0 (MQ below (va_Ql (fun (r2 : Int64) (_ : Unit) => r2 = r) (k_out (dC, dI) vwCl [(cA, .int), (cB, .int)] A (w1 o0 o1 o2 cA cB zs0 ns0 hn0 sm0 ak0 hd0 br0 dp0 de0)) A) ([.ref o0, .int x1] : List Value).toArray s 0 0 A) (F0 m 4 ls []) := by
    intro k
    induction k with
    | zero => intro y1 y2 y3  H locs ls hf; cases hf
    | succ k ih =>
      intro y1 y2 y3  H locs ls hf hP hD hS hl
      rw [fX1_told_4] at hf
      refine lv_iload_n hx hb dX1_told_4 rfl (lv_at hl 3 rfl) ?_
      refine lv_bipush (v := 8) hx hb dX1_told_5 (by decide) ?_
      refine lv_icmp_ge (tgt := 33) hx hb dX1_told_7 (by decide) (fun c1 => ?_) (fun c1 => ?_)
      · have hf := (if_pos c1).symm.trans hf
        refine lv_iload_n hx hb dX1_told_33 rfl (lv_at hl 1 rfl) ?_
        by_cases c2_0 : y1 = 0
        · have hf := (if_pos c2_0).symm.trans hf
          refine lv_tableIn (off := 46) (tgt := 80) hx hb dX1_told_34 (by rw [c2_0]; decide) (by rw [c2_0]; decide) (by rw [c2_0]; decide) (by decide) ?_
          refine lv_aload_n hx hb dX1_told_80 rfl (lv_at hl 0 rfl) ?_
          refine va_get (D := (dC, dI)) (ci := 1) (v := .long ak0) (C := RX1) (T := TX1) (N := 9) hx hb hts hin0 hown hK hP 0 rfl rfl 4 (by decide) hfl20 (fun _ h9 => h9) rfl dX1_told_81 ?_
          have hv := Option.some.inj hf
          exact W.lret (v := ak0) hx hb hr (fun t ht hW => k_endl hv hP hK hD hS ht hW) hS.2.2 dX1_told_84
        have hf := (if_neg c2_0).symm.trans hf
        by_cases c2_1 : y1 = 1
        · have hf := (if_pos c2_1).symm.trans hf
          refine lv_tableIn (off := 51) (tgt := 85) hx hb dX1_told_34 (by rw [c2_1]; decide) (by rw [c2_1]; decide) (by rw [c2_1]; decide) (by decide) ?_
          refine lv_aload_n hx hb dX1_told_85 rfl (lv_at hl 0 rfl) ?_
          refine va_get (D := (dC, dI)) (ci := 1) (v := .long hd0) (C := RX1) (T := TX1) (N := 9) hx hb hts hin0 hown hK hP 0 rfl rfl 5 (by decide) hfl24 (fun _ h9 => h9) rfl dX1_told_86 ?_
          have hv := Option.some.inj hf
          exact W.lret (v := hd0) hx hb hr (fun t ht hW => k_endl hv hP hK hD hS ht hW) hS.2.2 dX1_told_89
        have hf := (if_neg c2_1).symm.trans hf
        by_cases c2_2 : y1 = 2
        · have hf := (if_pos c2_2).symm.trans hf
          refine lv_tableIn (off := 56) (tgt := 90) hx hb dX1_told_34 (by rw [c2_2]; decide) (by rw [c2_2]; decide) (by rw [c2_2]; decide) (by decide) ?_
          refine lv_aload_n hx hb dX1_told_90 rfl (lv_at hl 0 rfl) ?_
          refine va_get (D := (dC, dI)) (ci := 1) (v := .long br0) (C := RX1) (T := TX1) (N := 9) hx hb hts hin0 hown hK hP 0 rfl rfl 6 (by decide) hfl34 (fun _ h9 => h9) rfl dX1_told_91 ?_
          have hv := Option.some.inj hf
          exact W.lret (v := br0) hx hb hr (fun t ht hW => k_endl hv hP hK hD hS ht hW) hS.2.2 dX1_told_94
        have hf := (if_neg c2_2).symm.trans hf
        by_cases c2_3 : y1 = 3
        · have hf := (if_pos c2_3).symm.trans hf
          refine lv_tableIn (off := 61) (tgt := 95) hx hb dX1_told_34 (by rw [c2_3]; decide) (by rw [c2_3]; decide) (by rw [c2_3]; decide) (by decide) ?_
          refine lv_aload_n hx hb dX1_told_95 rfl (lv_at hl 0 rfl) ?_
          refine va_get (D := (dC, dI)) (ci := 1) (v := .int dp0) (C := RX1) (T := TX1) (N := 9) hx hb hts hin0 hown hK hP 0 rfl rfl 7 (by decide) hfl27 (fun _ h9 => h9) rfl dX1_told_96 ?_
          refine lv_i2l hx hb dX1_told_99 rfl ?_
          have hv := Option.some.inj hf
          exact W.lret (v := dp0.toInt64) hx hb hr (fun t ht hW => k_endl hv hP hK hD hS ht hW) hS.2.2 dX1_told_100
        have hf := (if_neg c2_3).symm.trans hf
        by_cases c2_4 : y1 = 4
        · have hf := (if_pos c2_4).symm.trans hf
          refine lv_tableIn (off := 67) (tgt := 101) hx hb dX1_told_34 (by rw [c2_4]; decide) (by rw [c2_4]; decide) (by rw [c2_4]; decide) (by decide) ?_
          refine lv_aload_n hx hb dX1_told_101 rfl (lv_at hl 0 rfl) ?_
          refine va_get (D := (dC, dI)) (ci := 1) (v := .int de0) (C := RX1) (T := TX1) (N := 9) hx hb hts hin0 hown hK hP 0 rfl rfl 8 (by decide) hfl31 (fun _ h9 => h9) rfl dX1_told_102 ?_
          refine lv_i2l hx hb dX1_told_105 rfl ?_
          have hv := Option.some.inj hf
          exact W.lret (v := de0.toInt64) hx hb hr (fun t ht hW => k_endl hv hP hK hD hS ht hW) hS.2.2 dX1_told_106
        have hf := (if_neg c2_4).symm.trans hf
        by_cases c2_5 : y1 = 5
        · have hf := (if_pos c2_5).symm.trans hf
          refine lv_tableIn (off := 73) (tgt := 107) hx hb dX1_told_34 (by rw [c2_5]; decide) (by rw [c2_5]; decide) (by rw [c2_5]; decide) (by decide) ?_
          refine lv_aload_n hx hb dX1_told_107 rfl (lv_at hl 0 rfl) ?_
          refine va_get (D := (dC, dI)) (ci := 1) (v := .int hn0) (C := RX1) (T := TX1) (N := 9) hx hb hts hin0 hown hK hP 0 rfl rfl 2 (by decide) hfl58 (fun _ h9 => h9) rfl dX1_told_108 ?_
          refine lv_i2l hx hb dX1_told_111 rfl ?_
          have hv := Option.some.inj hf
          exact W.lret (v := hn0.toInt64) hx hb hr (fun t ht hW => k_endl hv hP hK hD hS ht hW) hS.2.2 dX1_told_112
        have hf := (if_neg c2_5).symm.trans hf
        by_cases c2_6 : y1 = 6
        · have hf := (if_pos c2_6).symm.trans hf
          refine lv_tableIn (off := 79) (tgt := 113) hx hb dX1_told_34 (by rw [c2_6]; decide) (by rw [c2_6]; decide) (by rw [c2_6]; decide) (by decide) ?_
          refine lv_iload_n hx hb dX1_told_113 rfl (lv_at hl 2 rfl) ?_
          refine lv_i2l hx hb dX1_told_114 rfl ?_
          have hv := Option.some.inj hf
          exact W.lret (v := y2.toInt64) hx hb hr (fun t ht hW => k_endl hv hP hK hD hS ht hW) hS.2.2 dX1_told_115
        have hf := (if_neg c2_6).symm.trans hf
        by_cases c2_7 : y1 = 7
        · have hf := (if_pos c2_7).symm.trans hf
          refine lv_tableIn (off := 82) (tgt := 116) hx hb dX1_told_34 (by rw [c2_7]; decide) (by rw [c2_7]; decide) (by rw [c2_7]; decide) (by decide) ?_
          refine lv_aload_n hx hb dX1_told_116 rfl (lv_at hl 0 rfl) ?_
          refine va_get (D := (dC, dI)) (ci := 1) (v := .long sm0) (C := RX1) (T := TX1) (N := 9) hx hb hts hin0 hown hK hP 0 rfl rfl 3 (by decide) hfl55 (fun _ h9 => h9) rfl dX1_told_117 ?_
          have hv := Option.some.inj hf
          exact W.lret (v := sm0) hx hb hr (fun t ht hW => k_endl hv hP hK hD hS ht hW) hS.2.2 dX1_told_120
        have hf := (if_neg c2_7).symm.trans hf
        refine lv_tableOut (tgt := 121) hx hb dX1_told_34 (sw_eight c2_0 c2_1 c2_2 c2_3 c2_4 c2_5 c2_6 c2_7) (by decide) ?_
        refine lv_ldc2 (v := (-2)) hx hb hown (hts (.constantLong RX1 63 (-2)) (by decide +kernel)) dX1_told_121 ?_
        have hv := Option.some.inj hf
        exact W.lret (v := (-2)) hx hb hr (fun t ht hW => k_endl hv hP hK hD hS ht hW) hS.2.2 dX1_told_124
      · have hf := (if_neg c1).symm.trans hf
        refine lv_iload_n hx hb dX1_told_10 rfl (lv_at hl 2 rfl) ?_
        refine lv_aload_n hx hb dX1_told_11 rfl (lv_at hl 0 rfl) ?_
        refine va_get (D := (dC, dI)) (ci := 1) (v := .ref o1) (C := RX1) (T := TX1) (N := 9) hx hb hts hin0 hown hK hP 0 rfl rfl 0 (by decide) hfl9 (fun _ h9 => h9) rfl dX1_told_12 ?_
        refine lv_iload_n hx hb dX1_told_15 rfl (lv_at hl 3 rfl) ?_
        obtain ⟨hi3, hf⟩ := og_no hf
        refine va_iald hx hb hK hP 1 0 rfl rfl hi3 dX1_told_16 ?_
        refine lv_if_le (tgt := 24) hx hb dX1_told_17 (by decide) (fun c4 => ?_) (fun c4 => ?_)
        · have hf := (if_pos c4).symm.trans hf
          refine lv_iconst (v := 0) hx hb dX1_told_24 (by decide) ?_
          refine lv_iadd hx hb dX1_told_25 ?_
          refine lv_istore_n (lv' := [(2, .int (y2 + 0)), (0, .ref o0), (1, .int y1), (3, .int y3)]) hx hb dX1_told_26 rfl hl (by decide) rfl (fun ls hl => ?_)
          refine lv_iinc (v := y3 + 1) (lv' := [(3, .int (y3 + 1)), (2, .int (y2 + 0)), (0, .ref o0), (1, .int y1)]) hx hb dX1_told_27 hl (k := 3) rfl (congrArg (fun t => y3 + t) (by decide)) (by decide) rfl (fun ls hl => ?_)
          refine lv_goto (tgt := 4) hx hb dX1_told_30 (by decide) ?_
          exact ih _ _ _ _ _ _ hf hP hD hS (lv_sub hl [2, 3, 1, 0] rfl)
        · have hf := (if_neg c4).symm.trans hf
          refine lv_iconst (v := 1) hx hb dX1_told_20 (by decide) ?_
          refine lv_goto (tgt := 25) hx hb dX1_told_21 (by decide) ?_
          refine lv_iadd hx hb dX1_told_25 ?_
          refine lv_istore_n (lv' := [(2, .int (y2 + 1)), (0, .ref o0), (1, .int y1), (3, .int y3)]) hx hb dX1_told_26 rfl hl (by decide) rfl (fun ls hl => ?_)
          refine lv_iinc (v := y3 + 1) (lv' := [(3, .int (y3 + 1)), (2, .int (y2 + 1)), (0, .ref o0), (1, .int y1)]) hx hb dX1_told_27 hl (k := 3) rfl (congrArg (fun t => y3 + t) (by decide)) (by decide) rfl (fun ls hl => ?_)
          refine lv_goto (tgt := 4) hx hb dX1_told_30 (by decide) ?_
          exact ih _ _ _ _ _ _ hf hP hD hS (lv_sub hl [2, 3, 1, 0] rfl)
  have hl := lv_entry ([.ref o0, .int x1]) (n := 4) (Nat.le_of_ble_eq_true rfl)
  rw [lg_entry_eq]
  generalize (lg_sl ([.ref o0, .int x1]) ++ List.replicate (4 - (lg_sl ([.ref o0, .int x1])).length) Slot.unset).toArray = ls at hl ⊢
  have hl : lv_has ls 4 [(0, .ref o0), (1, .int x1)] := hl
  refine lv_iconst (v := 0) hx hb dX1_told_0 (by decide) ?_
  refine lv_istore_n (lv' := [(2, .int 0), (0, .ref o0), (1, .int x1)]) hx hb dX1_told_1 rfl hl (by decide) rfl (fun ls hl => ?_)
  refine lv_iconst (v := 0) hx hb dX1_told_2 (by decide) ?_
  refine lv_istore_n (lv' := [(3, .int 0), (2, .int 0), (0, .ref o0), (1, .int x1)]) hx hb dX1_told_3 rfl hl (by decide) rfl (fun ls hl => ?_)
  exact loop4 9 _ _ _ _ _ _ hf hP hD hS (lv_sub hl [2, 3, 1, 0] rfl)
