/-! the law's loop and its walk -/
theorem lg_same (r : Int64) : lg_cmp r r = 0 := by
  unfold lg_cmp
  rw [if_neg (by exact Int64.lt_irrefl), if_pos rfl]
theorem sw_law {j : Nat} (h : 10 < j) (h2 : j < 16) : (nI j).toInt < 0 ∨ 10 < (nI j).toInt := by
  rw [nI_toInt (by omega)]
  omega
set_option maxHeartbeats 2000000 in
set_option maxRecDepth 100000 in
theorem law_loop {p : Program} {l : Launch} {e : Env} {s : State} {m : MethodId} {below : List Frame} {meth : Method} {c : Code} {dC : Nat → ClassId} {dI : Nat → Nat → Nat} {b L : Nat} {xs : Nat → Int32} (hL : L ≤ 2048) (C0 : lw_At p s m meth c b L xs) {o0 o1 o2 q0 q1 q2 : Nat} {cA cB cC cD : ClassId} (hK : va_K (dC, dI) vwCl [(cA, .int), (cB, .int), (cC, .int), (cD, .int)] s) :
    ∀ (n i : Nat), L + 1 ≤ i + n → i ≤ L → ∀ (zs ns0 ns1 : Nat → Int32) (a h b2 w : Nat) (de : Int32) (sm : Int64), RR zs ns0 ns1 → w < 8 → a ≤ 6 * i → h ≤ 6 * i → b2 ≤ 6 * i → ∀ (H : Heap) (locs : List Loc) (ls : Array Slot), va_P (dC, dI) vwCl (w0 o0 o1 o2 cA cB zs ns0 (nI a) (nI h) (nI b2) (nI 0) de (nI w) sm ++ w1 q0 q1 q2 cC cD zs ns1 (nI w) sm (lN a) (lN h) (lN b2) (nI 0) de) H → va_D (fun q : Nat => s.heap.size ≤ q) (w0 o0 o1 o2 cA cB zs ns0 (nI a) (nI h) (nI b2) (nI 0) de (nI w) sm ++ w1 q0 q1 q2 cC cD zs ns1 (nI w) sm (lN a) (lN h) (lN b2) (nI 0) de) → va_S (fun q : Nat => s.heap.size ≤ q) s.heap H locs → lv_has ls 4 [(0, .ref b), (1, .ref o0), (2, .ref q0), (3, .int (nI i))] → W p l e room_1 s m #[Value.ref b] below meth c H locs 6 162 (lw_Z below #[Value.ref b] s) (F0 m 18 ls []) := by
  obtain ⟨hx, hb, hr, hml, hown0, hts, hX, hbl, hlocks, hgv⟩ := C0
  have hown : s.vm.findClass RL = some m.cls := hown0
  have htl : ∀ w ∈ wsL_law, w.before #[Value.ref b] s = true := fun w h => hts w (wsL_law_in w h)
  have hA : ∀ q : Nat, s.heap.size ≤ q → (fun q : Nat => s.heap.size ≤ q) q := fun _ h => h
  have hbA : ¬ (fun q : Nat => s.heap.size ≤ q) b := Nat.not_le.mpr hbl
  have hCF : CallFix p m c cL_law 4 s #[Value.ref b] wsL_law RL := ⟨hx, hb, hml, hown, htl⟩
  intro n
  induction n with
  | zero =>
    intro i h1 h2
    exact absurd h1 (by omega)
  | succ n ih =>
    intro i h1 h2 zs ns0 ns1 a h b2 w de sm hR hw ha hh hb2 H locs ls hP hD hS hl
    refine lv_iload_n hx hb dL_law_18 rfl (lv_at hl 3 rfl) ?_
    refine lv_aload_n hx hb dL_law_19 rfl (lv_at hl 0 rfl) ?_
    refine va_slen hx hb hX hbl hbA hS dL_law_20 ?_
    refine lv_iconst (v := 4) hx hb dL_law_21 (by decide) ?_
    refine lv_isub hx hb dL_law_22 ?_
    refine lv_icmp_gt (tgt := 485) hx hb dL_law_23 (by decide) (fun c1 => ?_) (fun c1 => ?_)
    · refine lv_iconst (v := 1) hx hb dL_law_485 (by decide) ?_
      refine va_forget (fun q hq => hS.2.2 q hq) ?_
      refine W.widen (k := 600000) (n := 7302250) (Nat.le_of_ble_eq_true rfl) (Nat.le_of_ble_eq_true rfl) ?_
      exact lw_ret hx hb hr hlocks dL_law_486
    · have hi4 : i + 4 ≤ L := by
        have q := c1
        rw [i_lt, nI_toInt (show i < 2 ^ 31 by omega)] at q
        have q2 : (Int32.ofNat L - 4).toInt = (L : Int) - 4 := pk_sub_toInt (a := L) (b := 4) (by omega) (by decide)
        omega
      have tail : ∀ (H : Heap) (locs : List Loc) (ls : Array Slot) (zs ns0 ns1 : Nat → Int32) (a h b2 w : Nat) (de : Int32) (sm : Int64), RR zs ns0 ns1 → w < 8 → a ≤ 6 * (i + 4) → h ≤ 6 * (i + 4) → b2 ≤ 6 * (i + 4) → va_P (dC, dI) vwCl (w0 o0 o1 o2 cA cB zs ns0 (nI a) (nI h) (nI b2) (nI 0) de (nI w) sm ++ w1 q0 q1 q2 cC cD zs ns1 (nI w) sm (lN a) (lN h) (lN b2) (nI 0) de) H → va_D (fun q : Nat => s.heap.size ≤ q) (w0 o0 o1 o2 cA cB zs ns0 (nI a) (nI h) (nI b2) (nI 0) de (nI w) sm ++ w1 q0 q1 q2 cC cD zs ns1 (nI w) sm (lN a) (lN h) (lN b2) (nI 0) de) → va_S (fun q : Nat => s.heap.size ≤ q) s.heap H locs → lv_has ls 4 [(0, .ref b), (1, .ref o0), (2, .ref q0), (3, .int (nI i))] → W p l e room_1 s m #[Value.ref b] below meth c H locs 6 162 (lw_Z below #[Value.ref b] s) (F0 m 479 ls []) := by
        intro H locs ls zs ns0 ns1 a h b2 w de sm hR hw ha hh hb2 hP hD hS hl
        refine lv_iinc (v := nI (i + 4)) (lv' := [(3, .int (nI (i + 4))), (0, .ref b), (1, .ref o0), (2, .ref q0)]) hx hb dL_law_479 hl (k := 3) rfl (nI_add i 4) (by decide) rfl (fun ls hl => ?_)
        refine lv_goto (tgt := 18) hx hb dL_law_482 (by decide) ?_
        exact ih (i + 4) (by omega) (by omega) zs ns0 ns1 a h b2 w de sm hR hw ha hh hb2 H locs ls hP hD hS (lv_sub hl [1, 2, 3, 0] rfl)
      have hin0 : vp_in (nI i) L := vp_in_nI (by omega) (by omega)
      have hin1 : vp_in (nI i + 1) L := by rw [show nI i + 1 = nI (i + 1) from nI_add i 1]; exact vp_in_nI (by omega) (by omega)
      have hin2 : vp_in (nI i + 2) L := by rw [show nI i + 2 = nI (i + 2) from nI_add i 2]; exact vp_in_nI (by omega) (by omega)
      have hin3 : vp_in (nI i + 3) L := by rw [show nI i + 3 = nI (i + 3) from nI_add i 3]; exact vp_in_nI (by omega) (by omega)
      refine lv_aload_n hx hb dL_law_26 rfl (lv_at hl 0 rfl) ?_
      refine lv_iload_n hx hb dL_law_27 rfl (lv_at hl 3 rfl) ?_
      refine va_sld hx hb hX hbl hbA hS hin0 dL_law_28 ?_
      refine lv_bipush (v := 15) hx hb dL_law_29 (by decide) ?_
      refine lv_iand hx hb dL_law_31 ?_
      obtain ⟨j, hj, ej⟩ := pk_andE (xs (nI i).toNatClampNeg) (m := 15) 4 (by decide)
      rw [ej]
      by_cases cj0 : j = 0
      · subst cj0
        refine lv_tableIn (off := 60) (tgt := 92) hx hb dL_law_32 (by decide) (by decide) (by decide) (by decide) ?_
        refine lv_aload_n hx hb dL_law_92 rfl (lv_at hl 1 rfl) ?_
        refine lv_aload_n hx hb dL_law_93 rfl (lv_at hl 0 rfl) ?_
        refine lv_iload_n hx hb dL_law_94 rfl (lv_at hl 3 rfl) ?_
        refine lv_iconst (v := 1) hx hb dL_law_95 (by decide) ?_
        refine lv_iadd hx hb dL_law_96 ?_
        refine va_sld hx hb hX hbl hbA hS hin1 dL_law_97 ?_
        refine lv_aload_n hx hb dL_law_98 rfl (lv_at hl 0 rfl) ?_
        refine lv_iload_n hx hb dL_law_99 rfl (lv_at hl 3 rfl) ?_
        refine lv_iconst (v := 2) hx hb dL_law_100 (by decide) ?_
        refine lv_iadd hx hb dL_law_101 ?_
        refine va_sld hx hb hX hbl hbA hS hin2 dL_law_102 ?_
        obtain ⟨r, zs2, ns02, ns12, a2, h2, b3, w2, de2, sm2, e0, e1, hR2, ha2, hh2, hb2, hw2⟩ := st_open (t := 0) (de := de) (sm := sm) hR hw ha hh hb2 (xs (nI i + 1).toNatClampNeg) (xs (nI i + 2).toNatClampNeg)
        refine kc_i (wr := w1 q0 q1 q2 cC cD zs ns1 (nI w) sm (lN a) (lN h) (lN b2) (nI 0) de) (As := [.int (xs (nI i + 1).toNatClampNeg), .int (xs (nI i + 2).toNatClampNeg)]) (rest := []) [0, 1, 2] [3, 4, 5] [0, 1] 0 0 hCF (okX0_open l e0) (cwV 2 htl gL_law_X0_open rfl rfl rfl ydX0_open ⟨Nat.le_of_ble_eq_true rfl, Nat.le_of_ble_eq_true rfl⟩) hK hP hD hS hA rfl rfl rfl rfl rfl (by decide) rfl rfl rfl rfl hl.1 rfl (Nat.le_of_ble_eq_true rfl) dL_law_103 ⟨Nat.le_of_ble_eq_true rfl, Nat.le_of_ble_eq_true rfl⟩ (fun H locs hP hD hS => ?_)
        have hP : va_P (dC, dI) vwCl (w1 q0 q1 q2 cC cD zs ns1 (nI w) sm (lN a) (lN h) (lN b2) (nI 0) de ++ w0 o0 o1 o2 cA cB zs2 ns02 (nI a2) (nI h2) (nI b3) (nI 0) de2 (nI w2) sm2) H := hP
        have hD : va_D (fun q : Nat => s.heap.size ≤ q) (w1 q0 q1 q2 cC cD zs ns1 (nI w) sm (lN a) (lN h) (lN b2) (nI 0) de ++ w0 o0 o1 o2 cA cB zs2 ns02 (nI a2) (nI h2) (nI b3) (nI 0) de2 (nI w2) sm2) := hD
        refine lv_aload_n hx hb dL_law_106 rfl (lv_at hl 2 rfl) ?_
        refine lv_aload_n hx hb dL_law_107 rfl (lv_at hl 0 rfl) ?_
        refine lv_iload_n hx hb dL_law_108 rfl (lv_at hl 3 rfl) ?_
        refine lv_iconst (v := 1) hx hb dL_law_109 (by decide) ?_
        refine lv_iadd hx hb dL_law_110 ?_
        refine va_sld hx hb hX hbl hbA hS hin1 dL_law_111 ?_
        refine lv_aload_n hx hb dL_law_112 rfl (lv_at hl 0 rfl) ?_
        refine lv_iload_n hx hb dL_law_113 rfl (lv_at hl 3 rfl) ?_
        refine lv_iconst (v := 2) hx hb dL_law_114 (by decide) ?_
        refine lv_iadd hx hb dL_law_115 ?_
        refine va_sld hx hb hX hbl hbA hS hin2 dL_law_116 ?_
        refine kc_i (wr := w0 o0 o1 o2 cA cB zs2 ns02 (nI a2) (nI h2) (nI b3) (nI 0) de2 (nI w2) sm2) (As := [.int (xs (nI i + 1).toNatClampNeg), .int (xs (nI i + 2).toNatClampNeg)]) (rest := [.int r]) [0, 1, 2] [3, 4, 5] [2, 3] 1 0 hCF (okX1_open l e1) (cwV 2 htl gL_law_X1_open rfl rfl rfl ydX1_open ⟨Nat.le_of_ble_eq_true rfl, Nat.le_of_ble_eq_true rfl⟩) hK hP hD hS hA rfl rfl rfl rfl rfl (by decide) rfl rfl rfl rfl hl.1 rfl (Nat.le_of_ble_eq_true rfl) dL_law_117 ⟨Nat.le_of_ble_eq_true rfl, Nat.le_of_ble_eq_true rfl⟩ (fun H locs hP hD hS => ?_)
        have hP : va_P (dC, dI) vwCl (w0 o0 o1 o2 cA cB zs2 ns02 (nI a2) (nI h2) (nI b3) (nI 0) de2 (nI w2) sm2 ++ w1 q0 q1 q2 cC cD zs2 ns12 (nI w2) sm2 (lN a2) (lN h2) (lN b3) (nI 0) de2) H := hP
        have hD : va_D (fun q : Nat => s.heap.size ≤ q) (w0 o0 o1 o2 cA cB zs2 ns02 (nI a2) (nI h2) (nI b3) (nI 0) de2 (nI w2) sm2 ++ w1 q0 q1 q2 cC cD zs2 ns12 (nI w2) sm2 (lN a2) (lN h2) (lN b3) (nI 0) de2) := hD
        refine lv_icmp_eq (tgt := 479) hx hb dL_law_120 (by decide) (fun _ => ?_) (fun cz => absurd rfl cz)
        exact tail H locs ls _ _ _ a2 h2 b3 w2 _ _ hR2 hw2 (by omega) (by omega) (by omega) hP hD hS hl
      by_cases cj1 : j = 1
      · subst cj1
        refine lv_tableIn (off := 93) (tgt := 125) hx hb dL_law_32 (by decide) (by decide) (by decide) (by decide) ?_
        refine lv_aload_n hx hb dL_law_125 rfl (lv_at hl 1 rfl) ?_
        refine lv_aload_n hx hb dL_law_126 rfl (lv_at hl 0 rfl) ?_
        refine lv_iload_n hx hb dL_law_127 rfl (lv_at hl 3 rfl) ?_
        refine lv_iconst (v := 1) hx hb dL_law_128 (by decide) ?_
        refine lv_iadd hx hb dL_law_129 ?_
        refine va_sld hx hb hX hbl hbA hS hin1 dL_law_130 ?_
        obtain ⟨r, zs2, ns02, ns12, a2, h2, b3, w2, de2, sm2, e0, e1, hR2, ha2, hh2, hb2, hw2⟩ := st_close (t := 0) (de := de) (sm := sm) hR hw ha hh hb2 (xs (nI i + 1).toNatClampNeg)
        refine kc_i (wr := w1 q0 q1 q2 cC cD zs ns1 (nI w) sm (lN a) (lN h) (lN b2) (nI 0) de) (As := [.int (xs (nI i + 1).toNatClampNeg)]) (rest := []) [0, 1, 2] [3, 4, 5] [0, 1] 0 0 hCF (okX0_close l e0) (cwV 1 htl gL_law_X0_close rfl rfl rfl ydX0_close ⟨Nat.le_of_ble_eq_true rfl, Nat.le_of_ble_eq_true rfl⟩) hK hP hD hS hA rfl rfl rfl rfl rfl (by decide) rfl rfl rfl rfl hl.1 rfl (Nat.le_of_ble_eq_true rfl) dL_law_131 ⟨Nat.le_of_ble_eq_true rfl, Nat.le_of_ble_eq_true rfl⟩ (fun H locs hP hD hS => ?_)
        have hP : va_P (dC, dI) vwCl (w1 q0 q1 q2 cC cD zs ns1 (nI w) sm (lN a) (lN h) (lN b2) (nI 0) de ++ w0 o0 o1 o2 cA cB zs2 ns02 (nI a2) (nI h2) (nI b3) (nI 0) de2 (nI w2) sm2) H := hP
        have hD : va_D (fun q : Nat => s.heap.size ≤ q) (w1 q0 q1 q2 cC cD zs ns1 (nI w) sm (lN a) (lN h) (lN b2) (nI 0) de ++ w0 o0 o1 o2 cA cB zs2 ns02 (nI a2) (nI h2) (nI b3) (nI 0) de2 (nI w2) sm2) := hD
        refine lv_aload_n hx hb dL_law_134 rfl (lv_at hl 2 rfl) ?_
        refine lv_aload_n hx hb dL_law_135 rfl (lv_at hl 0 rfl) ?_
        refine lv_iload_n hx hb dL_law_136 rfl (lv_at hl 3 rfl) ?_
        refine lv_iconst (v := 1) hx hb dL_law_137 (by decide) ?_
        refine lv_iadd hx hb dL_law_138 ?_
        refine va_sld hx hb hX hbl hbA hS hin1 dL_law_139 ?_
        refine kc_i (wr := w0 o0 o1 o2 cA cB zs2 ns02 (nI a2) (nI h2) (nI b3) (nI 0) de2 (nI w2) sm2) (As := [.int (xs (nI i + 1).toNatClampNeg)]) (rest := [.int r]) [0, 1, 2] [3, 4, 5] [2, 3] 1 0 hCF (okX1_close l e1) (cwV 1 htl gL_law_X1_close rfl rfl rfl ydX1_close ⟨Nat.le_of_ble_eq_true rfl, Nat.le_of_ble_eq_true rfl⟩) hK hP hD hS hA rfl rfl rfl rfl rfl (by decide) rfl rfl rfl rfl hl.1 rfl (Nat.le_of_ble_eq_true rfl) dL_law_140 ⟨Nat.le_of_ble_eq_true rfl, Nat.le_of_ble_eq_true rfl⟩ (fun H locs hP hD hS => ?_)
        have hP : va_P (dC, dI) vwCl (w0 o0 o1 o2 cA cB zs2 ns02 (nI a2) (nI h2) (nI b3) (nI 0) de2 (nI w2) sm2 ++ w1 q0 q1 q2 cC cD zs2 ns12 (nI w2) sm2 (lN a2) (lN h2) (lN b3) (nI 0) de2) H := hP
        have hD : va_D (fun q : Nat => s.heap.size ≤ q) (w0 o0 o1 o2 cA cB zs2 ns02 (nI a2) (nI h2) (nI b3) (nI 0) de2 (nI w2) sm2 ++ w1 q0 q1 q2 cC cD zs2 ns12 (nI w2) sm2 (lN a2) (lN h2) (lN b3) (nI 0) de2) := hD
        refine lv_icmp_eq (tgt := 479) hx hb dL_law_143 (by decide) (fun _ => ?_) (fun cz => absurd rfl cz)
        exact tail H locs ls _ _ _ a2 h2 b3 w2 _ _ hR2 hw2 (by omega) (by omega) (by omega) hP hD hS hl
      by_cases cj2 : j = 2
      · subst cj2
        refine lv_tableIn (off := 116) (tgt := 148) hx hb dL_law_32 (by decide) (by decide) (by decide) (by decide) ?_
        refine lv_aload_n hx hb dL_law_148 rfl (lv_at hl 1 rfl) ?_
        refine lv_aload_n hx hb dL_law_149 rfl (lv_at hl 0 rfl) ?_
        refine lv_iload_n hx hb dL_law_150 rfl (lv_at hl 3 rfl) ?_
        refine lv_iconst (v := 1) hx hb dL_law_151 (by decide) ?_
        refine lv_iadd hx hb dL_law_152 ?_
        refine va_sld hx hb hX hbl hbA hS hin1 dL_law_153 ?_
        refine lv_aload_n hx hb dL_law_154 rfl (lv_at hl 0 rfl) ?_
        refine lv_iload_n hx hb dL_law_155 rfl (lv_at hl 3 rfl) ?_
        refine lv_iconst (v := 2) hx hb dL_law_156 (by decide) ?_
        refine lv_iadd hx hb dL_law_157 ?_
        refine va_sld hx hb hX hbl hbA hS hin2 dL_law_158 ?_
        refine lv_aload_n hx hb dL_law_159 rfl (lv_at hl 0 rfl) ?_
        refine lv_iload_n hx hb dL_law_160 rfl (lv_at hl 3 rfl) ?_
        refine lv_iconst (v := 3) hx hb dL_law_161 (by decide) ?_
        refine lv_iadd hx hb dL_law_162 ?_
        refine va_sld hx hb hX hbl hbA hS hin3 dL_law_163 ?_
        obtain ⟨r, zs2, ns02, ns12, a2, h2, b3, w2, de2, sm2, e0, e1, hR2, ha2, hh2, hb2, hw2⟩ := st_write (t := 0) (de := de) (sm := sm) hR hw ha hh hb2 (xs (nI i + 1).toNatClampNeg) (xs (nI i + 2).toNatClampNeg) (xs (nI i + 3).toNatClampNeg)
        refine kc_i (wr := w1 q0 q1 q2 cC cD zs ns1 (nI w) sm (lN a) (lN h) (lN b2) (nI 0) de) (As := [.int (xs (nI i + 1).toNatClampNeg), .int (xs (nI i + 2).toNatClampNeg), .int (xs (nI i + 3).toNatClampNeg)]) (rest := []) [0, 1, 2] [3, 4, 5] [0, 1] 0 0 hCF (okX0_write l e0) (cwV 3 htl gL_law_X0_write rfl rfl rfl ydX0_write ⟨Nat.le_of_ble_eq_true rfl, Nat.le_of_ble_eq_true rfl⟩) hK hP hD hS hA rfl rfl rfl rfl rfl (by decide) rfl rfl rfl rfl hl.1 rfl (Nat.le_of_ble_eq_true rfl) dL_law_164 ⟨Nat.le_of_ble_eq_true rfl, Nat.le_of_ble_eq_true rfl⟩ (fun H locs hP hD hS => ?_)
        have hP : va_P (dC, dI) vwCl (w1 q0 q1 q2 cC cD zs ns1 (nI w) sm (lN a) (lN h) (lN b2) (nI 0) de ++ w0 o0 o1 o2 cA cB zs2 ns02 (nI a2) (nI h2) (nI b3) (nI 0) de2 (nI w2) sm2) H := hP
        have hD : va_D (fun q : Nat => s.heap.size ≤ q) (w1 q0 q1 q2 cC cD zs ns1 (nI w) sm (lN a) (lN h) (lN b2) (nI 0) de ++ w0 o0 o1 o2 cA cB zs2 ns02 (nI a2) (nI h2) (nI b3) (nI 0) de2 (nI w2) sm2) := hD
        refine lv_aload_n hx hb dL_law_167 rfl (lv_at hl 2 rfl) ?_
        refine lv_aload_n hx hb dL_law_168 rfl (lv_at hl 0 rfl) ?_
        refine lv_iload_n hx hb dL_law_169 rfl (lv_at hl 3 rfl) ?_
        refine lv_iconst (v := 1) hx hb dL_law_170 (by decide) ?_
        refine lv_iadd hx hb dL_law_171 ?_
        refine va_sld hx hb hX hbl hbA hS hin1 dL_law_172 ?_
        refine lv_aload_n hx hb dL_law_173 rfl (lv_at hl 0 rfl) ?_
        refine lv_iload_n hx hb dL_law_174 rfl (lv_at hl 3 rfl) ?_
        refine lv_iconst (v := 2) hx hb dL_law_175 (by decide) ?_
        refine lv_iadd hx hb dL_law_176 ?_
        refine va_sld hx hb hX hbl hbA hS hin2 dL_law_177 ?_
        refine lv_aload_n hx hb dL_law_178 rfl (lv_at hl 0 rfl) ?_
        refine lv_iload_n hx hb dL_law_179 rfl (lv_at hl 3 rfl) ?_
        refine lv_iconst (v := 3) hx hb dL_law_180 (by decide) ?_
        refine lv_iadd hx hb dL_law_181 ?_
        refine va_sld hx hb hX hbl hbA hS hin3 dL_law_182 ?_
        refine kc_i (wr := w0 o0 o1 o2 cA cB zs2 ns02 (nI a2) (nI h2) (nI b3) (nI 0) de2 (nI w2) sm2) (As := [.int (xs (nI i + 1).toNatClampNeg), .int (xs (nI i + 2).toNatClampNeg), .int (xs (nI i + 3).toNatClampNeg)]) (rest := [.int r]) [0, 1, 2] [3, 4, 5] [2, 3] 1 0 hCF (okX1_write l e1) (cwV 3 htl gL_law_X1_write rfl rfl rfl ydX1_write ⟨Nat.le_of_ble_eq_true rfl, Nat.le_of_ble_eq_true rfl⟩) hK hP hD hS hA rfl rfl rfl rfl rfl (by decide) rfl rfl rfl rfl hl.1 rfl (Nat.le_of_ble_eq_true rfl) dL_law_183 ⟨Nat.le_of_ble_eq_true rfl, Nat.le_of_ble_eq_true rfl⟩ (fun H locs hP hD hS => ?_)
        have hP : va_P (dC, dI) vwCl (w0 o0 o1 o2 cA cB zs2 ns02 (nI a2) (nI h2) (nI b3) (nI 0) de2 (nI w2) sm2 ++ w1 q0 q1 q2 cC cD zs2 ns12 (nI w2) sm2 (lN a2) (lN h2) (lN b3) (nI 0) de2) H := hP
        have hD : va_D (fun q : Nat => s.heap.size ≤ q) (w0 o0 o1 o2 cA cB zs2 ns02 (nI a2) (nI h2) (nI b3) (nI 0) de2 (nI w2) sm2 ++ w1 q0 q1 q2 cC cD zs2 ns12 (nI w2) sm2 (lN a2) (lN h2) (lN b3) (nI 0) de2) := hD
        refine lv_icmp_eq (tgt := 479) hx hb dL_law_186 (by decide) (fun _ => ?_) (fun cz => absurd rfl cz)
        exact tail H locs ls _ _ _ a2 h2 b3 w2 _ _ hR2 hw2 (by omega) (by omega) (by omega) hP hD hS hl
      by_cases cj3 : j = 3
      · subst cj3
        refine lv_tableIn (off := 159) (tgt := 191) hx hb dL_law_32 (by decide) (by decide) (by decide) (by decide) ?_
        refine lv_aload_n hx hb dL_law_191 rfl (lv_at hl 1 rfl) ?_
        refine lv_aload_n hx hb dL_law_192 rfl (lv_at hl 0 rfl) ?_
        refine lv_iload_n hx hb dL_law_193 rfl (lv_at hl 3 rfl) ?_
        refine lv_iconst (v := 1) hx hb dL_law_194 (by decide) ?_
        refine lv_iadd hx hb dL_law_195 ?_
        refine va_sld hx hb hX hbl hbA hS hin1 dL_law_196 ?_
        refine lv_aload_n hx hb dL_law_197 rfl (lv_at hl 0 rfl) ?_
        refine lv_iload_n hx hb dL_law_198 rfl (lv_at hl 3 rfl) ?_
        refine lv_iconst (v := 2) hx hb dL_law_199 (by decide) ?_
        refine lv_iadd hx hb dL_law_200 ?_
        refine va_sld hx hb hX hbl hbA hS hin2 dL_law_201 ?_
        refine lv_aload_n hx hb dL_law_202 rfl (lv_at hl 0 rfl) ?_
        refine lv_iload_n hx hb dL_law_203 rfl (lv_at hl 3 rfl) ?_
        refine lv_iconst (v := 3) hx hb dL_law_204 (by decide) ?_
        refine lv_iadd hx hb dL_law_205 ?_
        refine va_sld hx hb hX hbl hbA hS hin3 dL_law_206 ?_
        obtain ⟨r, zs2, ns02, ns12, a2, h2, b3, w2, de2, sm2, e0, e1, hR2, ha2, hh2, hb2, hw2⟩ := st_share (t := 0) (de := de) (sm := sm) hR hw ha hh hb2 (xs (nI i + 1).toNatClampNeg) (xs (nI i + 2).toNatClampNeg) (xs (nI i + 3).toNatClampNeg)
        refine kc_i (wr := w1 q0 q1 q2 cC cD zs ns1 (nI w) sm (lN a) (lN h) (lN b2) (nI 0) de) (As := [.int (xs (nI i + 1).toNatClampNeg), .int (xs (nI i + 2).toNatClampNeg), .int (xs (nI i + 3).toNatClampNeg)]) (rest := []) [0, 1, 2] [3, 4, 5] [0, 1] 0 0 hCF (okX0_share l e0) (cwV 3 htl gL_law_X0_share rfl rfl rfl ydX0_share ⟨Nat.le_of_ble_eq_true rfl, Nat.le_of_ble_eq_true rfl⟩) hK hP hD hS hA rfl rfl rfl rfl rfl (by decide) rfl rfl rfl rfl hl.1 rfl (Nat.le_of_ble_eq_true rfl) dL_law_207 ⟨Nat.le_of_ble_eq_true rfl, Nat.le_of_ble_eq_true rfl⟩ (fun H locs hP hD hS => ?_)
        have hP : va_P (dC, dI) vwCl (w1 q0 q1 q2 cC cD zs ns1 (nI w) sm (lN a) (lN h) (lN b2) (nI 0) de ++ w0 o0 o1 o2 cA cB zs2 ns02 (nI a2) (nI h2) (nI b3) (nI 0) de2 (nI w2) sm2) H := hP
        have hD : va_D (fun q : Nat => s.heap.size ≤ q) (w1 q0 q1 q2 cC cD zs ns1 (nI w) sm (lN a) (lN h) (lN b2) (nI 0) de ++ w0 o0 o1 o2 cA cB zs2 ns02 (nI a2) (nI h2) (nI b3) (nI 0) de2 (nI w2) sm2) := hD
        refine lv_aload_n hx hb dL_law_210 rfl (lv_at hl 2 rfl) ?_
        refine lv_aload_n hx hb dL_law_211 rfl (lv_at hl 0 rfl) ?_
        refine lv_iload_n hx hb dL_law_212 rfl (lv_at hl 3 rfl) ?_
        refine lv_iconst (v := 1) hx hb dL_law_213 (by decide) ?_
        refine lv_iadd hx hb dL_law_214 ?_
        refine va_sld hx hb hX hbl hbA hS hin1 dL_law_215 ?_
        refine lv_aload_n hx hb dL_law_216 rfl (lv_at hl 0 rfl) ?_
        refine lv_iload_n hx hb dL_law_217 rfl (lv_at hl 3 rfl) ?_
        refine lv_iconst (v := 2) hx hb dL_law_218 (by decide) ?_
        refine lv_iadd hx hb dL_law_219 ?_
        refine va_sld hx hb hX hbl hbA hS hin2 dL_law_220 ?_
        refine lv_aload_n hx hb dL_law_221 rfl (lv_at hl 0 rfl) ?_
        refine lv_iload_n hx hb dL_law_222 rfl (lv_at hl 3 rfl) ?_
        refine lv_iconst (v := 3) hx hb dL_law_223 (by decide) ?_
        refine lv_iadd hx hb dL_law_224 ?_
        refine va_sld hx hb hX hbl hbA hS hin3 dL_law_225 ?_
        refine kc_i (wr := w0 o0 o1 o2 cA cB zs2 ns02 (nI a2) (nI h2) (nI b3) (nI 0) de2 (nI w2) sm2) (As := [.int (xs (nI i + 1).toNatClampNeg), .int (xs (nI i + 2).toNatClampNeg), .int (xs (nI i + 3).toNatClampNeg)]) (rest := [.int r]) [0, 1, 2] [3, 4, 5] [2, 3] 1 0 hCF (okX1_share l e1) (cwV 3 htl gL_law_X1_share rfl rfl rfl ydX1_share ⟨Nat.le_of_ble_eq_true rfl, Nat.le_of_ble_eq_true rfl⟩) hK hP hD hS hA rfl rfl rfl rfl rfl (by decide) rfl rfl rfl rfl hl.1 rfl (Nat.le_of_ble_eq_true rfl) dL_law_226 ⟨Nat.le_of_ble_eq_true rfl, Nat.le_of_ble_eq_true rfl⟩ (fun H locs hP hD hS => ?_)
        have hP : va_P (dC, dI) vwCl (w0 o0 o1 o2 cA cB zs2 ns02 (nI a2) (nI h2) (nI b3) (nI 0) de2 (nI w2) sm2 ++ w1 q0 q1 q2 cC cD zs2 ns12 (nI w2) sm2 (lN a2) (lN h2) (lN b3) (nI 0) de2) H := hP
        have hD : va_D (fun q : Nat => s.heap.size ≤ q) (w0 o0 o1 o2 cA cB zs2 ns02 (nI a2) (nI h2) (nI b3) (nI 0) de2 (nI w2) sm2 ++ w1 q0 q1 q2 cC cD zs2 ns12 (nI w2) sm2 (lN a2) (lN h2) (lN b3) (nI 0) de2) := hD
        refine lv_icmp_eq (tgt := 479) hx hb dL_law_229 (by decide) (fun _ => ?_) (fun cz => absurd rfl cz)
        exact tail H locs ls _ _ _ a2 h2 b3 w2 _ _ hR2 hw2 (by omega) (by omega) (by omega) hP hD hS hl
      by_cases cj4 : j = 4
      · subst cj4
        refine lv_tableIn (off := 202) (tgt := 234) hx hb dL_law_32 (by decide) (by decide) (by decide) (by decide) ?_
        refine lv_aload_n hx hb dL_law_234 rfl (lv_at hl 1 rfl) ?_
        refine lv_aload_n hx hb dL_law_235 rfl (lv_at hl 0 rfl) ?_
        refine lv_iload_n hx hb dL_law_236 rfl (lv_at hl 3 rfl) ?_
        refine lv_iconst (v := 1) hx hb dL_law_237 (by decide) ?_
        refine lv_iadd hx hb dL_law_238 ?_
        refine va_sld hx hb hX hbl hbA hS hin1 dL_law_239 ?_
        refine lv_aload_n hx hb dL_law_240 rfl (lv_at hl 0 rfl) ?_
        refine lv_iload_n hx hb dL_law_241 rfl (lv_at hl 3 rfl) ?_
        refine lv_iconst (v := 2) hx hb dL_law_242 (by decide) ?_
        refine lv_iadd hx hb dL_law_243 ?_
        refine va_sld hx hb hX hbl hbA hS hin2 dL_law_244 ?_
        obtain ⟨r, zs2, ns02, ns12, a2, h2, b3, w2, de2, sm2, e0, e1, hR2, ha2, hh2, hb2, hw2⟩ := st_spread (t := 0) (de := de) (sm := sm) hR hw ha hh hb2 (xs (nI i + 1).toNatClampNeg) (xs (nI i + 2).toNatClampNeg)
        refine kc_i (wr := w1 q0 q1 q2 cC cD zs ns1 (nI w) sm (lN a) (lN h) (lN b2) (nI 0) de) (As := [.int (xs (nI i + 1).toNatClampNeg), .int (xs (nI i + 2).toNatClampNeg)]) (rest := []) [0, 1, 2] [3, 4, 5] [0, 1] 0 0 hCF (okX0_spread l e0) (cwV 2 htl gL_law_X0_spread rfl rfl rfl ydX0_spread ⟨Nat.le_of_ble_eq_true rfl, Nat.le_of_ble_eq_true rfl⟩) hK hP hD hS hA rfl rfl rfl rfl rfl (by decide) rfl rfl rfl rfl hl.1 rfl (Nat.le_of_ble_eq_true rfl) dL_law_245 ⟨Nat.le_of_ble_eq_true rfl, Nat.le_of_ble_eq_true rfl⟩ (fun H locs hP hD hS => ?_)
        have hP : va_P (dC, dI) vwCl (w1 q0 q1 q2 cC cD zs ns1 (nI w) sm (lN a) (lN h) (lN b2) (nI 0) de ++ w0 o0 o1 o2 cA cB zs2 ns02 (nI a2) (nI h2) (nI b3) (nI 0) de2 (nI w2) sm2) H := hP
        have hD : va_D (fun q : Nat => s.heap.size ≤ q) (w1 q0 q1 q2 cC cD zs ns1 (nI w) sm (lN a) (lN h) (lN b2) (nI 0) de ++ w0 o0 o1 o2 cA cB zs2 ns02 (nI a2) (nI h2) (nI b3) (nI 0) de2 (nI w2) sm2) := hD
        refine lv_aload_n hx hb dL_law_248 rfl (lv_at hl 2 rfl) ?_
        refine lv_aload_n hx hb dL_law_249 rfl (lv_at hl 0 rfl) ?_
        refine lv_iload_n hx hb dL_law_250 rfl (lv_at hl 3 rfl) ?_
        refine lv_iconst (v := 1) hx hb dL_law_251 (by decide) ?_
        refine lv_iadd hx hb dL_law_252 ?_
        refine va_sld hx hb hX hbl hbA hS hin1 dL_law_253 ?_
        refine lv_aload_n hx hb dL_law_254 rfl (lv_at hl 0 rfl) ?_
        refine lv_iload_n hx hb dL_law_255 rfl (lv_at hl 3 rfl) ?_
        refine lv_iconst (v := 2) hx hb dL_law_256 (by decide) ?_
        refine lv_iadd hx hb dL_law_257 ?_
        refine va_sld hx hb hX hbl hbA hS hin2 dL_law_258 ?_
        refine kc_i (wr := w0 o0 o1 o2 cA cB zs2 ns02 (nI a2) (nI h2) (nI b3) (nI 0) de2 (nI w2) sm2) (As := [.int (xs (nI i + 1).toNatClampNeg), .int (xs (nI i + 2).toNatClampNeg)]) (rest := [.int r]) [0, 1, 2] [3, 4, 5] [2, 3] 1 0 hCF (okX1_spread l e1) (cwV 2 htl gL_law_X1_spread rfl rfl rfl ydX1_spread ⟨Nat.le_of_ble_eq_true rfl, Nat.le_of_ble_eq_true rfl⟩) hK hP hD hS hA rfl rfl rfl rfl rfl (by decide) rfl rfl rfl rfl hl.1 rfl (Nat.le_of_ble_eq_true rfl) dL_law_259 ⟨Nat.le_of_ble_eq_true rfl, Nat.le_of_ble_eq_true rfl⟩ (fun H locs hP hD hS => ?_)
        have hP : va_P (dC, dI) vwCl (w0 o0 o1 o2 cA cB zs2 ns02 (nI a2) (nI h2) (nI b3) (nI 0) de2 (nI w2) sm2 ++ w1 q0 q1 q2 cC cD zs2 ns12 (nI w2) sm2 (lN a2) (lN h2) (lN b3) (nI 0) de2) H := hP
        have hD : va_D (fun q : Nat => s.heap.size ≤ q) (w0 o0 o1 o2 cA cB zs2 ns02 (nI a2) (nI h2) (nI b3) (nI 0) de2 (nI w2) sm2 ++ w1 q0 q1 q2 cC cD zs2 ns12 (nI w2) sm2 (lN a2) (lN h2) (lN b3) (nI 0) de2) := hD
        refine lv_icmp_eq (tgt := 479) hx hb dL_law_262 (by decide) (fun _ => ?_) (fun cz => absurd rfl cz)
        exact tail H locs ls _ _ _ a2 h2 b3 w2 _ _ hR2 hw2 (by omega) (by omega) (by omega) hP hD hS hl
      by_cases cj5 : j = 5
      · subst cj5
        refine lv_tableIn (off := 235) (tgt := 267) hx hb dL_law_32 (by decide) (by decide) (by decide) (by decide) ?_
        refine lv_aload_n hx hb dL_law_267 rfl (lv_at hl 1 rfl) ?_
        refine lv_aload_n hx hb dL_law_268 rfl (lv_at hl 0 rfl) ?_
        refine lv_iload_n hx hb dL_law_269 rfl (lv_at hl 3 rfl) ?_
        refine lv_iconst (v := 1) hx hb dL_law_270 (by decide) ?_
        refine lv_iadd hx hb dL_law_271 ?_
        refine va_sld hx hb hX hbl hbA hS hin1 dL_law_272 ?_
        refine lv_aload_n hx hb dL_law_273 rfl (lv_at hl 0 rfl) ?_
        refine lv_iload_n hx hb dL_law_274 rfl (lv_at hl 3 rfl) ?_
        refine lv_iconst (v := 2) hx hb dL_law_275 (by decide) ?_
        refine lv_iadd hx hb dL_law_276 ?_
        refine va_sld hx hb hX hbl hbA hS hin2 dL_law_277 ?_
        obtain ⟨r, zs2, ns02, ns12, a2, h2, b3, w2, de2, sm2, e0, e1, hR2, ha2, hh2, hb2, hw2⟩ := st_climb (t := 0) (de := de) (sm := sm) hR hw ha hh hb2 (xs (nI i + 1).toNatClampNeg) (xs (nI i + 2).toNatClampNeg)
        refine kc_i (wr := w1 q0 q1 q2 cC cD zs ns1 (nI w) sm (lN a) (lN h) (lN b2) (nI 0) de) (As := [.int (xs (nI i + 1).toNatClampNeg), .int (xs (nI i + 2).toNatClampNeg)]) (rest := []) [0, 1, 2] [3, 4, 5] [0, 1] 0 0 hCF (okX0_climb l e0) (cwV 2 htl gL_law_X0_climb rfl rfl rfl ydX0_climb ⟨Nat.le_of_ble_eq_true rfl, Nat.le_of_ble_eq_true rfl⟩) hK hP hD hS hA rfl rfl rfl rfl rfl (by decide) rfl rfl rfl rfl hl.1 rfl (Nat.le_of_ble_eq_true rfl) dL_law_278 ⟨Nat.le_of_ble_eq_true rfl, Nat.le_of_ble_eq_true rfl⟩ (fun H locs hP hD hS => ?_)
        have hP : va_P (dC, dI) vwCl (w1 q0 q1 q2 cC cD zs ns1 (nI w) sm (lN a) (lN h) (lN b2) (nI 0) de ++ w0 o0 o1 o2 cA cB zs2 ns02 (nI a2) (nI h2) (nI b3) (nI 0) de2 (nI w2) sm2) H := hP
        have hD : va_D (fun q : Nat => s.heap.size ≤ q) (w1 q0 q1 q2 cC cD zs ns1 (nI w) sm (lN a) (lN h) (lN b2) (nI 0) de ++ w0 o0 o1 o2 cA cB zs2 ns02 (nI a2) (nI h2) (nI b3) (nI 0) de2 (nI w2) sm2) := hD
        refine lv_aload_n hx hb dL_law_281 rfl (lv_at hl 2 rfl) ?_
        refine lv_aload_n hx hb dL_law_282 rfl (lv_at hl 0 rfl) ?_
        refine lv_iload_n hx hb dL_law_283 rfl (lv_at hl 3 rfl) ?_
        refine lv_iconst (v := 1) hx hb dL_law_284 (by decide) ?_
        refine lv_iadd hx hb dL_law_285 ?_
        refine va_sld hx hb hX hbl hbA hS hin1 dL_law_286 ?_
        refine lv_aload_n hx hb dL_law_287 rfl (lv_at hl 0 rfl) ?_
        refine lv_iload_n hx hb dL_law_288 rfl (lv_at hl 3 rfl) ?_
        refine lv_iconst (v := 2) hx hb dL_law_289 (by decide) ?_
        refine lv_iadd hx hb dL_law_290 ?_
        refine va_sld hx hb hX hbl hbA hS hin2 dL_law_291 ?_
        refine kc_i (wr := w0 o0 o1 o2 cA cB zs2 ns02 (nI a2) (nI h2) (nI b3) (nI 0) de2 (nI w2) sm2) (As := [.int (xs (nI i + 1).toNatClampNeg), .int (xs (nI i + 2).toNatClampNeg)]) (rest := [.int r]) [0, 1, 2] [3, 4, 5] [2, 3] 1 0 hCF (okX1_climb l e1) (cwV 2 htl gL_law_X1_climb rfl rfl rfl ydX1_climb ⟨Nat.le_of_ble_eq_true rfl, Nat.le_of_ble_eq_true rfl⟩) hK hP hD hS hA rfl rfl rfl rfl rfl (by decide) rfl rfl rfl rfl hl.1 rfl (Nat.le_of_ble_eq_true rfl) dL_law_292 ⟨Nat.le_of_ble_eq_true rfl, Nat.le_of_ble_eq_true rfl⟩ (fun H locs hP hD hS => ?_)
        have hP : va_P (dC, dI) vwCl (w0 o0 o1 o2 cA cB zs2 ns02 (nI a2) (nI h2) (nI b3) (nI 0) de2 (nI w2) sm2 ++ w1 q0 q1 q2 cC cD zs2 ns12 (nI w2) sm2 (lN a2) (lN h2) (lN b3) (nI 0) de2) H := hP
        have hD : va_D (fun q : Nat => s.heap.size ≤ q) (w0 o0 o1 o2 cA cB zs2 ns02 (nI a2) (nI h2) (nI b3) (nI 0) de2 (nI w2) sm2 ++ w1 q0 q1 q2 cC cD zs2 ns12 (nI w2) sm2 (lN a2) (lN h2) (lN b3) (nI 0) de2) := hD
        refine lv_icmp_eq (tgt := 479) hx hb dL_law_295 (by decide) (fun _ => ?_) (fun cz => absurd rfl cz)
        exact tail H locs ls _ _ _ a2 h2 b3 w2 _ _ hR2 hw2 (by omega) (by omega) (by omega) hP hD hS hl
      by_cases cj6 : j = 6
      · subst cj6
        refine lv_tableIn (off := 268) (tgt := 300) hx hb dL_law_32 (by decide) (by decide) (by decide) (by decide) ?_
        refine lv_aload_n hx hb dL_law_300 rfl (lv_at hl 1 rfl) ?_
        refine lv_aload_n hx hb dL_law_301 rfl (lv_at hl 0 rfl) ?_
        refine lv_iload_n hx hb dL_law_302 rfl (lv_at hl 3 rfl) ?_
        refine lv_iconst (v := 1) hx hb dL_law_303 (by decide) ?_
        refine lv_iadd hx hb dL_law_304 ?_
        refine va_sld hx hb hX hbl hbA hS hin1 dL_law_305 ?_
        obtain ⟨r, zs2, ns02, ns12, a2, h2, b3, w2, de2, sm2, e0, e1, hR2, ha2, hh2, hb2, hw2⟩ := st_find (t := 0) (de := de) (sm := sm) hR hw ha hh hb2 (xs (nI i + 1).toNatClampNeg)
        refine kc_i (wr := w1 q0 q1 q2 cC cD zs ns1 (nI w) sm (lN a) (lN h) (lN b2) (nI 0) de) (As := [.int (xs (nI i + 1).toNatClampNeg)]) (rest := []) [0, 1, 2] [3, 4, 5] [0, 1] 0 0 hCF (okX0_find l e0) (cwV 1 htl gL_law_X0_find rfl rfl rfl ydX0_find ⟨Nat.le_of_ble_eq_true rfl, Nat.le_of_ble_eq_true rfl⟩) hK hP hD hS hA rfl rfl rfl rfl rfl (by decide) rfl rfl rfl rfl hl.1 rfl (Nat.le_of_ble_eq_true rfl) dL_law_306 ⟨Nat.le_of_ble_eq_true rfl, Nat.le_of_ble_eq_true rfl⟩ (fun H locs hP hD hS => ?_)
        have hP : va_P (dC, dI) vwCl (w1 q0 q1 q2 cC cD zs ns1 (nI w) sm (lN a) (lN h) (lN b2) (nI 0) de ++ w0 o0 o1 o2 cA cB zs2 ns02 (nI a2) (nI h2) (nI b3) (nI 0) de2 (nI w2) sm2) H := hP
        have hD : va_D (fun q : Nat => s.heap.size ≤ q) (w1 q0 q1 q2 cC cD zs ns1 (nI w) sm (lN a) (lN h) (lN b2) (nI 0) de ++ w0 o0 o1 o2 cA cB zs2 ns02 (nI a2) (nI h2) (nI b3) (nI 0) de2 (nI w2) sm2) := hD
        refine lv_aload_n hx hb dL_law_309 rfl (lv_at hl 2 rfl) ?_
        refine lv_aload_n hx hb dL_law_310 rfl (lv_at hl 0 rfl) ?_
        refine lv_iload_n hx hb dL_law_311 rfl (lv_at hl 3 rfl) ?_
        refine lv_iconst (v := 1) hx hb dL_law_312 (by decide) ?_
        refine lv_iadd hx hb dL_law_313 ?_
        refine va_sld hx hb hX hbl hbA hS hin1 dL_law_314 ?_
        refine kc_i (wr := w0 o0 o1 o2 cA cB zs2 ns02 (nI a2) (nI h2) (nI b3) (nI 0) de2 (nI w2) sm2) (As := [.int (xs (nI i + 1).toNatClampNeg)]) (rest := [.int r]) [0, 1, 2] [3, 4, 5] [2, 3] 1 0 hCF (okX1_find l e1) (cwV 1 htl gL_law_X1_find rfl rfl rfl ydX1_find ⟨Nat.le_of_ble_eq_true rfl, Nat.le_of_ble_eq_true rfl⟩) hK hP hD hS hA rfl rfl rfl rfl rfl (by decide) rfl rfl rfl rfl hl.1 rfl (Nat.le_of_ble_eq_true rfl) dL_law_315 ⟨Nat.le_of_ble_eq_true rfl, Nat.le_of_ble_eq_true rfl⟩ (fun H locs hP hD hS => ?_)
        have hP : va_P (dC, dI) vwCl (w0 o0 o1 o2 cA cB zs2 ns02 (nI a2) (nI h2) (nI b3) (nI 0) de2 (nI w2) sm2 ++ w1 q0 q1 q2 cC cD zs2 ns12 (nI w2) sm2 (lN a2) (lN h2) (lN b3) (nI 0) de2) H := hP
        have hD : va_D (fun q : Nat => s.heap.size ≤ q) (w0 o0 o1 o2 cA cB zs2 ns02 (nI a2) (nI h2) (nI b3) (nI 0) de2 (nI w2) sm2 ++ w1 q0 q1 q2 cC cD zs2 ns12 (nI w2) sm2 (lN a2) (lN h2) (lN b3) (nI 0) de2) := hD
        refine lv_icmp_eq (tgt := 479) hx hb dL_law_318 (by decide) (fun _ => ?_) (fun cz => absurd rfl cz)
        exact tail H locs ls _ _ _ a2 h2 b3 w2 _ _ hR2 hw2 (by omega) (by omega) (by omega) hP hD hS hl
      by_cases cj7 : j = 7
      · subst cj7
        refine lv_tableIn (off := 291) (tgt := 323) hx hb dL_law_32 (by decide) (by decide) (by decide) (by decide) ?_
        refine lv_aload_n hx hb dL_law_323 rfl (lv_at hl 1 rfl) ?_
        refine lv_aload_n hx hb dL_law_324 rfl (lv_at hl 0 rfl) ?_
        refine lv_iload_n hx hb dL_law_325 rfl (lv_at hl 3 rfl) ?_
        refine lv_iconst (v := 1) hx hb dL_law_326 (by decide) ?_
        refine lv_iadd hx hb dL_law_327 ?_
        refine va_sld hx hb hX hbl hbA hS hin1 dL_law_328 ?_
        refine lv_aload_n hx hb dL_law_329 rfl (lv_at hl 0 rfl) ?_
        refine lv_iload_n hx hb dL_law_330 rfl (lv_at hl 3 rfl) ?_
        refine lv_iconst (v := 2) hx hb dL_law_331 (by decide) ?_
        refine lv_iadd hx hb dL_law_332 ?_
        refine va_sld hx hb hX hbl hbA hS hin2 dL_law_333 ?_
        refine lv_if_eq (tgt := 341) hx hb dL_law_334 (by decide) (fun cb => ?_) (fun cb => ?_)
        · refine lv_iconst (v := 0) hx hb dL_law_341 (by decide) ?_
          obtain ⟨r, zs2, ns02, ns12, a2, h2, b3, w2, de2, sm2, e0, e1, hR2, ha2, hh2, hb2, hw2⟩ := st_rounds (t := 0) (de := de) (sm := sm) hR hw ha hh hb2 (xs (nI i + 1).toNatClampNeg) 0
          refine kc_i (wr := w1 q0 q1 q2 cC cD zs ns1 (nI w) sm (lN a) (lN h) (lN b2) (nI 0) de) (As := [.int (xs (nI i + 1).toNatClampNeg), .int 0]) (rest := []) [0, 1, 2] [3, 4, 5] [0, 1] 0 0 hCF (okX0_rounds l e0) (cwV 2 htl gL_law_X0_rounds rfl rfl rfl ydX0_rounds ⟨Nat.le_of_ble_eq_true rfl, Nat.le_of_ble_eq_true rfl⟩) hK hP hD hS hA rfl rfl rfl rfl rfl (by decide) rfl rfl rfl rfl hl.1 rfl (Nat.le_of_ble_eq_true rfl) dL_law_342 ⟨Nat.le_of_ble_eq_true rfl, Nat.le_of_ble_eq_true rfl⟩ (fun H locs hP hD hS => ?_)
          have hP : va_P (dC, dI) vwCl (w1 q0 q1 q2 cC cD zs ns1 (nI w) sm (lN a) (lN h) (lN b2) (nI 0) de ++ w0 o0 o1 o2 cA cB zs2 ns02 (nI a2) (nI h2) (nI b3) (nI 0) de2 (nI w2) sm2) H := hP
          have hD : va_D (fun q : Nat => s.heap.size ≤ q) (w1 q0 q1 q2 cC cD zs ns1 (nI w) sm (lN a) (lN h) (lN b2) (nI 0) de ++ w0 o0 o1 o2 cA cB zs2 ns02 (nI a2) (nI h2) (nI b3) (nI 0) de2 (nI w2) sm2) := hD
          refine lv_aload_n hx hb dL_law_345 rfl (lv_at hl 2 rfl) ?_
          refine lv_aload_n hx hb dL_law_346 rfl (lv_at hl 0 rfl) ?_
          refine lv_iload_n hx hb dL_law_347 rfl (lv_at hl 3 rfl) ?_
          refine lv_iconst (v := 1) hx hb dL_law_348 (by decide) ?_
          refine lv_iadd hx hb dL_law_349 ?_
          refine va_sld hx hb hX hbl hbA hS hin1 dL_law_350 ?_
          refine lv_aload_n hx hb dL_law_351 rfl (lv_at hl 0 rfl) ?_
          refine lv_iload_n hx hb dL_law_352 rfl (lv_at hl 3 rfl) ?_
          refine lv_iconst (v := 2) hx hb dL_law_353 (by decide) ?_
          refine lv_iadd hx hb dL_law_354 ?_
          refine va_sld hx hb hX hbl hbA hS hin2 dL_law_355 ?_
          refine lv_if_eq (tgt := 363) hx hb dL_law_356 (by decide) (fun cb2 => ?_) (fun cb2 => absurd cb cb2)
          refine lv_iconst (v := 0) hx hb dL_law_363 (by decide) ?_
          refine kc_i (wr := w0 o0 o1 o2 cA cB zs2 ns02 (nI a2) (nI h2) (nI b3) (nI 0) de2 (nI w2) sm2) (As := [.int (xs (nI i + 1).toNatClampNeg), .int 0]) (rest := [.int r]) [0, 1, 2] [3, 4, 5] [2, 3] 1 0 hCF (okX1_rounds l e1) (cwV 2 htl gL_law_X1_rounds rfl rfl rfl ydX1_rounds ⟨Nat.le_of_ble_eq_true rfl, Nat.le_of_ble_eq_true rfl⟩) hK hP hD hS hA rfl rfl rfl rfl rfl (by decide) rfl rfl rfl rfl hl.1 rfl (Nat.le_of_ble_eq_true rfl) dL_law_364 ⟨Nat.le_of_ble_eq_true rfl, Nat.le_of_ble_eq_true rfl⟩ (fun H locs hP hD hS => ?_)
          have hP : va_P (dC, dI) vwCl (w0 o0 o1 o2 cA cB zs2 ns02 (nI a2) (nI h2) (nI b3) (nI 0) de2 (nI w2) sm2 ++ w1 q0 q1 q2 cC cD zs2 ns12 (nI w2) sm2 (lN a2) (lN h2) (lN b3) (nI 0) de2) H := hP
          have hD : va_D (fun q : Nat => s.heap.size ≤ q) (w0 o0 o1 o2 cA cB zs2 ns02 (nI a2) (nI h2) (nI b3) (nI 0) de2 (nI w2) sm2 ++ w1 q0 q1 q2 cC cD zs2 ns12 (nI w2) sm2 (lN a2) (lN h2) (lN b3) (nI 0) de2) := hD
          refine lv_icmp_eq (tgt := 479) hx hb dL_law_367 (by decide) (fun _ => ?_) (fun cz => absurd rfl cz)
          exact tail H locs ls _ _ _ a2 h2 b3 w2 _ _ hR2 hw2 (by omega) (by omega) (by omega) hP hD hS hl
        · refine lv_iconst (v := 1) hx hb dL_law_337 (by decide) ?_
          refine lv_goto (tgt := 342) hx hb dL_law_338 (by decide) ?_
          obtain ⟨r, zs2, ns02, ns12, a2, h2, b3, w2, de2, sm2, e0, e1, hR2, ha2, hh2, hb2, hw2⟩ := st_rounds (t := 0) (de := de) (sm := sm) hR hw ha hh hb2 (xs (nI i + 1).toNatClampNeg) 1
          refine kc_i (wr := w1 q0 q1 q2 cC cD zs ns1 (nI w) sm (lN a) (lN h) (lN b2) (nI 0) de) (As := [.int (xs (nI i + 1).toNatClampNeg), .int 1]) (rest := []) [0, 1, 2] [3, 4, 5] [0, 1] 0 0 hCF (okX0_rounds l e0) (cwV 2 htl gL_law_X0_rounds rfl rfl rfl ydX0_rounds ⟨Nat.le_of_ble_eq_true rfl, Nat.le_of_ble_eq_true rfl⟩) hK hP hD hS hA rfl rfl rfl rfl rfl (by decide) rfl rfl rfl rfl hl.1 rfl (Nat.le_of_ble_eq_true rfl) dL_law_342 ⟨Nat.le_of_ble_eq_true rfl, Nat.le_of_ble_eq_true rfl⟩ (fun H locs hP hD hS => ?_)
          have hP : va_P (dC, dI) vwCl (w1 q0 q1 q2 cC cD zs ns1 (nI w) sm (lN a) (lN h) (lN b2) (nI 0) de ++ w0 o0 o1 o2 cA cB zs2 ns02 (nI a2) (nI h2) (nI b3) (nI 0) de2 (nI w2) sm2) H := hP
          have hD : va_D (fun q : Nat => s.heap.size ≤ q) (w1 q0 q1 q2 cC cD zs ns1 (nI w) sm (lN a) (lN h) (lN b2) (nI 0) de ++ w0 o0 o1 o2 cA cB zs2 ns02 (nI a2) (nI h2) (nI b3) (nI 0) de2 (nI w2) sm2) := hD
          refine lv_aload_n hx hb dL_law_345 rfl (lv_at hl 2 rfl) ?_
          refine lv_aload_n hx hb dL_law_346 rfl (lv_at hl 0 rfl) ?_
          refine lv_iload_n hx hb dL_law_347 rfl (lv_at hl 3 rfl) ?_
          refine lv_iconst (v := 1) hx hb dL_law_348 (by decide) ?_
          refine lv_iadd hx hb dL_law_349 ?_
          refine va_sld hx hb hX hbl hbA hS hin1 dL_law_350 ?_
          refine lv_aload_n hx hb dL_law_351 rfl (lv_at hl 0 rfl) ?_
          refine lv_iload_n hx hb dL_law_352 rfl (lv_at hl 3 rfl) ?_
          refine lv_iconst (v := 2) hx hb dL_law_353 (by decide) ?_
          refine lv_iadd hx hb dL_law_354 ?_
          refine va_sld hx hb hX hbl hbA hS hin2 dL_law_355 ?_
          refine lv_if_eq (tgt := 363) hx hb dL_law_356 (by decide) (fun cb2 => absurd cb2 cb) (fun cb2 => ?_)
          refine lv_iconst (v := 1) hx hb dL_law_359 (by decide) ?_
          refine lv_goto (tgt := 364) hx hb dL_law_360 (by decide) ?_
          refine kc_i (wr := w0 o0 o1 o2 cA cB zs2 ns02 (nI a2) (nI h2) (nI b3) (nI 0) de2 (nI w2) sm2) (As := [.int (xs (nI i + 1).toNatClampNeg), .int 1]) (rest := [.int r]) [0, 1, 2] [3, 4, 5] [2, 3] 1 0 hCF (okX1_rounds l e1) (cwV 2 htl gL_law_X1_rounds rfl rfl rfl ydX1_rounds ⟨Nat.le_of_ble_eq_true rfl, Nat.le_of_ble_eq_true rfl⟩) hK hP hD hS hA rfl rfl rfl rfl rfl (by decide) rfl rfl rfl rfl hl.1 rfl (Nat.le_of_ble_eq_true rfl) dL_law_364 ⟨Nat.le_of_ble_eq_true rfl, Nat.le_of_ble_eq_true rfl⟩ (fun H locs hP hD hS => ?_)
          have hP : va_P (dC, dI) vwCl (w0 o0 o1 o2 cA cB zs2 ns02 (nI a2) (nI h2) (nI b3) (nI 0) de2 (nI w2) sm2 ++ w1 q0 q1 q2 cC cD zs2 ns12 (nI w2) sm2 (lN a2) (lN h2) (lN b3) (nI 0) de2) H := hP
          have hD : va_D (fun q : Nat => s.heap.size ≤ q) (w0 o0 o1 o2 cA cB zs2 ns02 (nI a2) (nI h2) (nI b3) (nI 0) de2 (nI w2) sm2 ++ w1 q0 q1 q2 cC cD zs2 ns12 (nI w2) sm2 (lN a2) (lN h2) (lN b3) (nI 0) de2) := hD
          refine lv_icmp_eq (tgt := 479) hx hb dL_law_367 (by decide) (fun _ => ?_) (fun cz => absurd rfl cz)
          exact tail H locs ls _ _ _ a2 h2 b3 w2 _ _ hR2 hw2 (by omega) (by omega) (by omega) hP hD hS hl
      by_cases cj8 : j = 8
      · subst cj8
        refine lv_tableIn (off := 340) (tgt := 372) hx hb dL_law_32 (by decide) (by decide) (by decide) (by decide) ?_
        refine lv_aload_n hx hb dL_law_372 rfl (lv_at hl 1 rfl) ?_
        refine lv_aload_n hx hb dL_law_373 rfl (lv_at hl 0 rfl) ?_
        refine lv_iload_n hx hb dL_law_374 rfl (lv_at hl 3 rfl) ?_
        refine lv_iconst (v := 1) hx hb dL_law_375 (by decide) ?_
        refine lv_iadd hx hb dL_law_376 ?_
        refine va_sld hx hb hX hbl hbA hS hin1 dL_law_377 ?_
        refine lv_aload_n hx hb dL_law_378 rfl (lv_at hl 0 rfl) ?_
        refine lv_iload_n hx hb dL_law_379 rfl (lv_at hl 3 rfl) ?_
        refine lv_iconst (v := 2) hx hb dL_law_380 (by decide) ?_
        refine lv_iadd hx hb dL_law_381 ?_
        refine va_sld hx hb hX hbl hbA hS hin2 dL_law_382 ?_
        refine lv_if_eq (tgt := 390) hx hb dL_law_383 (by decide) (fun cb => ?_) (fun cb => ?_)
        · refine lv_iconst (v := 0) hx hb dL_law_390 (by decide) ?_
          obtain ⟨r, zs2, ns02, ns12, a2, h2, b3, w2, de2, sm2, e0, e1, hR2, ha2, hh2, hb2, hw2⟩ := st_bring (t := 0) (de := de) (sm := sm) hR hw ha hh hb2 (xs (nI i + 1).toNatClampNeg) 0
          refine kc_i (wr := w1 q0 q1 q2 cC cD zs ns1 (nI w) sm (lN a) (lN h) (lN b2) (nI 0) de) (As := [.int (xs (nI i + 1).toNatClampNeg), .int 0]) (rest := []) [0, 1, 2] [3, 4, 5] [0, 1] 0 0 hCF (okX0_bring l e0) (cwV 2 htl gL_law_X0_bring rfl rfl rfl ydX0_bring ⟨Nat.le_of_ble_eq_true rfl, Nat.le_of_ble_eq_true rfl⟩) hK hP hD hS hA rfl rfl rfl rfl rfl (by decide) rfl rfl rfl rfl hl.1 rfl (Nat.le_of_ble_eq_true rfl) dL_law_391 ⟨Nat.le_of_ble_eq_true rfl, Nat.le_of_ble_eq_true rfl⟩ (fun H locs hP hD hS => ?_)
          have hP : va_P (dC, dI) vwCl (w1 q0 q1 q2 cC cD zs ns1 (nI w) sm (lN a) (lN h) (lN b2) (nI 0) de ++ w0 o0 o1 o2 cA cB zs2 ns02 (nI a2) (nI h2) (nI b3) (nI 0) de2 (nI w2) sm2) H := hP
          have hD : va_D (fun q : Nat => s.heap.size ≤ q) (w1 q0 q1 q2 cC cD zs ns1 (nI w) sm (lN a) (lN h) (lN b2) (nI 0) de ++ w0 o0 o1 o2 cA cB zs2 ns02 (nI a2) (nI h2) (nI b3) (nI 0) de2 (nI w2) sm2) := hD
          refine lv_aload_n hx hb dL_law_394 rfl (lv_at hl 2 rfl) ?_
          refine lv_aload_n hx hb dL_law_395 rfl (lv_at hl 0 rfl) ?_
          refine lv_iload_n hx hb dL_law_396 rfl (lv_at hl 3 rfl) ?_
          refine lv_iconst (v := 1) hx hb dL_law_397 (by decide) ?_
          refine lv_iadd hx hb dL_law_398 ?_
          refine va_sld hx hb hX hbl hbA hS hin1 dL_law_399 ?_
          refine lv_aload_n hx hb dL_law_400 rfl (lv_at hl 0 rfl) ?_
          refine lv_iload_n hx hb dL_law_401 rfl (lv_at hl 3 rfl) ?_
          refine lv_iconst (v := 2) hx hb dL_law_402 (by decide) ?_
          refine lv_iadd hx hb dL_law_403 ?_
          refine va_sld hx hb hX hbl hbA hS hin2 dL_law_404 ?_
          refine lv_if_eq (tgt := 412) hx hb dL_law_405 (by decide) (fun cb2 => ?_) (fun cb2 => absurd cb cb2)
          refine lv_iconst (v := 0) hx hb dL_law_412 (by decide) ?_
          refine kc_i (wr := w0 o0 o1 o2 cA cB zs2 ns02 (nI a2) (nI h2) (nI b3) (nI 0) de2 (nI w2) sm2) (As := [.int (xs (nI i + 1).toNatClampNeg), .int 0]) (rest := [.int r]) [0, 1, 2] [3, 4, 5] [2, 3] 1 0 hCF (okX1_bring l e1) (cwV 2 htl gL_law_X1_bring rfl rfl rfl ydX1_bring ⟨Nat.le_of_ble_eq_true rfl, Nat.le_of_ble_eq_true rfl⟩) hK hP hD hS hA rfl rfl rfl rfl rfl (by decide) rfl rfl rfl rfl hl.1 rfl (Nat.le_of_ble_eq_true rfl) dL_law_413 ⟨Nat.le_of_ble_eq_true rfl, Nat.le_of_ble_eq_true rfl⟩ (fun H locs hP hD hS => ?_)
          have hP : va_P (dC, dI) vwCl (w0 o0 o1 o2 cA cB zs2 ns02 (nI a2) (nI h2) (nI b3) (nI 0) de2 (nI w2) sm2 ++ w1 q0 q1 q2 cC cD zs2 ns12 (nI w2) sm2 (lN a2) (lN h2) (lN b3) (nI 0) de2) H := hP
          have hD : va_D (fun q : Nat => s.heap.size ≤ q) (w0 o0 o1 o2 cA cB zs2 ns02 (nI a2) (nI h2) (nI b3) (nI 0) de2 (nI w2) sm2 ++ w1 q0 q1 q2 cC cD zs2 ns12 (nI w2) sm2 (lN a2) (lN h2) (lN b3) (nI 0) de2) := hD
          refine lv_icmp_eq (tgt := 479) hx hb dL_law_416 (by decide) (fun _ => ?_) (fun cz => absurd rfl cz)
          exact tail H locs ls _ _ _ a2 h2 b3 w2 _ _ hR2 hw2 (by omega) (by omega) (by omega) hP hD hS hl
        · refine lv_iconst (v := 1) hx hb dL_law_386 (by decide) ?_
          refine lv_goto (tgt := 391) hx hb dL_law_387 (by decide) ?_
          obtain ⟨r, zs2, ns02, ns12, a2, h2, b3, w2, de2, sm2, e0, e1, hR2, ha2, hh2, hb2, hw2⟩ := st_bring (t := 0) (de := de) (sm := sm) hR hw ha hh hb2 (xs (nI i + 1).toNatClampNeg) 1
          refine kc_i (wr := w1 q0 q1 q2 cC cD zs ns1 (nI w) sm (lN a) (lN h) (lN b2) (nI 0) de) (As := [.int (xs (nI i + 1).toNatClampNeg), .int 1]) (rest := []) [0, 1, 2] [3, 4, 5] [0, 1] 0 0 hCF (okX0_bring l e0) (cwV 2 htl gL_law_X0_bring rfl rfl rfl ydX0_bring ⟨Nat.le_of_ble_eq_true rfl, Nat.le_of_ble_eq_true rfl⟩) hK hP hD hS hA rfl rfl rfl rfl rfl (by decide) rfl rfl rfl rfl hl.1 rfl (Nat.le_of_ble_eq_true rfl) dL_law_391 ⟨Nat.le_of_ble_eq_true rfl, Nat.le_of_ble_eq_true rfl⟩ (fun H locs hP hD hS => ?_)
          have hP : va_P (dC, dI) vwCl (w1 q0 q1 q2 cC cD zs ns1 (nI w) sm (lN a) (lN h) (lN b2) (nI 0) de ++ w0 o0 o1 o2 cA cB zs2 ns02 (nI a2) (nI h2) (nI b3) (nI 0) de2 (nI w2) sm2) H := hP
          have hD : va_D (fun q : Nat => s.heap.size ≤ q) (w1 q0 q1 q2 cC cD zs ns1 (nI w) sm (lN a) (lN h) (lN b2) (nI 0) de ++ w0 o0 o1 o2 cA cB zs2 ns02 (nI a2) (nI h2) (nI b3) (nI 0) de2 (nI w2) sm2) := hD
          refine lv_aload_n hx hb dL_law_394 rfl (lv_at hl 2 rfl) ?_
          refine lv_aload_n hx hb dL_law_395 rfl (lv_at hl 0 rfl) ?_
          refine lv_iload_n hx hb dL_law_396 rfl (lv_at hl 3 rfl) ?_
          refine lv_iconst (v := 1) hx hb dL_law_397 (by decide) ?_
          refine lv_iadd hx hb dL_law_398 ?_
          refine va_sld hx hb hX hbl hbA hS hin1 dL_law_399 ?_
          refine lv_aload_n hx hb dL_law_400 rfl (lv_at hl 0 rfl) ?_
          refine lv_iload_n hx hb dL_law_401 rfl (lv_at hl 3 rfl) ?_
          refine lv_iconst (v := 2) hx hb dL_law_402 (by decide) ?_
          refine lv_iadd hx hb dL_law_403 ?_
          refine va_sld hx hb hX hbl hbA hS hin2 dL_law_404 ?_
          refine lv_if_eq (tgt := 412) hx hb dL_law_405 (by decide) (fun cb2 => absurd cb2 cb) (fun cb2 => ?_)
          refine lv_iconst (v := 1) hx hb dL_law_408 (by decide) ?_
          refine lv_goto (tgt := 413) hx hb dL_law_409 (by decide) ?_
          refine kc_i (wr := w0 o0 o1 o2 cA cB zs2 ns02 (nI a2) (nI h2) (nI b3) (nI 0) de2 (nI w2) sm2) (As := [.int (xs (nI i + 1).toNatClampNeg), .int 1]) (rest := [.int r]) [0, 1, 2] [3, 4, 5] [2, 3] 1 0 hCF (okX1_bring l e1) (cwV 2 htl gL_law_X1_bring rfl rfl rfl ydX1_bring ⟨Nat.le_of_ble_eq_true rfl, Nat.le_of_ble_eq_true rfl⟩) hK hP hD hS hA rfl rfl rfl rfl rfl (by decide) rfl rfl rfl rfl hl.1 rfl (Nat.le_of_ble_eq_true rfl) dL_law_413 ⟨Nat.le_of_ble_eq_true rfl, Nat.le_of_ble_eq_true rfl⟩ (fun H locs hP hD hS => ?_)
          have hP : va_P (dC, dI) vwCl (w0 o0 o1 o2 cA cB zs2 ns02 (nI a2) (nI h2) (nI b3) (nI 0) de2 (nI w2) sm2 ++ w1 q0 q1 q2 cC cD zs2 ns12 (nI w2) sm2 (lN a2) (lN h2) (lN b3) (nI 0) de2) H := hP
          have hD : va_D (fun q : Nat => s.heap.size ≤ q) (w0 o0 o1 o2 cA cB zs2 ns02 (nI a2) (nI h2) (nI b3) (nI 0) de2 (nI w2) sm2 ++ w1 q0 q1 q2 cC cD zs2 ns12 (nI w2) sm2 (lN a2) (lN h2) (lN b3) (nI 0) de2) := hD
          refine lv_icmp_eq (tgt := 479) hx hb dL_law_416 (by decide) (fun _ => ?_) (fun cz => absurd rfl cz)
          exact tail H locs ls _ _ _ a2 h2 b3 w2 _ _ hR2 hw2 (by omega) (by omega) (by omega) hP hD hS hl
      by_cases cj9 : j = 9
      · subst cj9
        refine lv_tableIn (off := 389) (tgt := 421) hx hb dL_law_32 (by decide) (by decide) (by decide) (by decide) ?_
        refine lv_aload_n hx hb dL_law_421 rfl (lv_at hl 1 rfl) ?_
        refine lv_aload_n hx hb dL_law_422 rfl (lv_at hl 0 rfl) ?_
        refine lv_iload_n hx hb dL_law_423 rfl (lv_at hl 3 rfl) ?_
        refine lv_iconst (v := 1) hx hb dL_law_424 (by decide) ?_
        refine lv_iadd hx hb dL_law_425 ?_
        refine va_sld hx hb hX hbl hbA hS hin1 dL_law_426 ?_
        refine lv_aload_n hx hb dL_law_427 rfl (lv_at hl 0 rfl) ?_
        refine lv_iload_n hx hb dL_law_428 rfl (lv_at hl 3 rfl) ?_
        refine lv_iconst (v := 2) hx hb dL_law_429 (by decide) ?_
        refine lv_iadd hx hb dL_law_430 ?_
        refine va_sld hx hb hX hbl hbA hS hin2 dL_law_431 ?_
        obtain ⟨r, e0, e1⟩ := st_number (a := a) (h := h) (b := b2) (t := 0) (w := w) (de := de) (sm := sm) hR (xs (nI i + 1).toNatClampNeg) (xs (nI i + 2).toNatClampNeg)
        refine kc_l (wr := w1 q0 q1 q2 cC cD zs ns1 (nI w) sm (lN a) (lN h) (lN b2) (nI 0) de) (As := [.int (xs (nI i + 1).toNatClampNeg), .int (xs (nI i + 2).toNatClampNeg)]) (rest := []) [0, 1, 2] [3, 4, 5] [0, 1] 0 0 hCF (okX0_number l e0) (cwV 2 htl gL_law_X0_number rfl rfl rfl ydX0_number ⟨Nat.le_of_ble_eq_true rfl, Nat.le_of_ble_eq_true rfl⟩) hK hP hD hS hA rfl rfl rfl rfl rfl (by decide) rfl rfl rfl rfl hl.1 rfl (Nat.le_of_ble_eq_true rfl) dL_law_432 ⟨Nat.le_of_ble_eq_true rfl, Nat.le_of_ble_eq_true rfl⟩ (fun H locs hP hD hS => ?_)
        have hP : va_P (dC, dI) vwCl (w1 q0 q1 q2 cC cD zs ns1 (nI w) sm (lN a) (lN h) (lN b2) (nI 0) de ++ w0 o0 o1 o2 cA cB zs ns0 (nI a) (nI h) (nI b2) (nI 0) de (nI w) sm) H := hP
        have hD : va_D (fun q : Nat => s.heap.size ≤ q) (w1 q0 q1 q2 cC cD zs ns1 (nI w) sm (lN a) (lN h) (lN b2) (nI 0) de ++ w0 o0 o1 o2 cA cB zs ns0 (nI a) (nI h) (nI b2) (nI 0) de (nI w) sm) := hD
        refine lv_aload_n hx hb dL_law_435 rfl (lv_at hl 2 rfl) ?_
        refine lv_aload_n hx hb dL_law_436 rfl (lv_at hl 0 rfl) ?_
        refine lv_iload_n hx hb dL_law_437 rfl (lv_at hl 3 rfl) ?_
        refine lv_iconst (v := 1) hx hb dL_law_438 (by decide) ?_
        refine lv_iadd hx hb dL_law_439 ?_
        refine va_sld hx hb hX hbl hbA hS hin1 dL_law_440 ?_
        refine lv_aload_n hx hb dL_law_441 rfl (lv_at hl 0 rfl) ?_
        refine lv_iload_n hx hb dL_law_442 rfl (lv_at hl 3 rfl) ?_
        refine lv_iconst (v := 2) hx hb dL_law_443 (by decide) ?_
        refine lv_iadd hx hb dL_law_444 ?_
        refine va_sld hx hb hX hbl hbA hS hin2 dL_law_445 ?_
        refine kc_l (wr := w0 o0 o1 o2 cA cB zs ns0 (nI a) (nI h) (nI b2) (nI 0) de (nI w) sm) (As := [.int (xs (nI i + 1).toNatClampNeg), .int (xs (nI i + 2).toNatClampNeg)]) (rest := [.long r]) [0, 1, 2] [3, 4, 5] [2, 3] 1 0 hCF (okX1_number l e1) (cwV 2 htl gL_law_X1_number rfl rfl rfl ydX1_number ⟨Nat.le_of_ble_eq_true rfl, Nat.le_of_ble_eq_true rfl⟩) hK hP hD hS hA rfl rfl rfl rfl rfl (by decide) rfl rfl rfl rfl hl.1 rfl (Nat.le_of_ble_eq_true rfl) dL_law_446 ⟨Nat.le_of_ble_eq_true rfl, Nat.le_of_ble_eq_true rfl⟩ (fun H locs hP hD hS => ?_)
        have hP : va_P (dC, dI) vwCl (w0 o0 o1 o2 cA cB zs ns0 (nI a) (nI h) (nI b2) (nI 0) de (nI w) sm ++ w1 q0 q1 q2 cC cD zs ns1 (nI w) sm (lN a) (lN h) (lN b2) (nI 0) de) H := hP
        have hD : va_D (fun q : Nat => s.heap.size ≤ q) (w0 o0 o1 o2 cA cB zs ns0 (nI a) (nI h) (nI b2) (nI 0) de (nI w) sm ++ w1 q0 q1 q2 cC cD zs ns1 (nI w) sm (lN a) (lN h) (lN b2) (nI 0) de) := hD
        refine W.lcmp hx hb dL_law_449 ?_
        refine lv_if_eq (tgt := 479) hx hb dL_law_450 (by decide) (fun _ => ?_) (fun cz => absurd (lg_same r) cz)
        exact tail H locs ls _ _ _ a h b2 w _ _ hR hw (by omega) (by omega) (by omega) hP hD hS hl
      by_cases cj10 : j = 10
      · subst cj10
        refine lv_tableIn (off := 423) (tgt := 455) hx hb dL_law_32 (by decide) (by decide) (by decide) (by decide) ?_
        refine lv_aload_n hx hb dL_law_455 rfl (lv_at hl 1 rfl) ?_
        refine lv_aload_n hx hb dL_law_456 rfl (lv_at hl 0 rfl) ?_
        refine lv_iload_n hx hb dL_law_457 rfl (lv_at hl 3 rfl) ?_
        refine lv_iconst (v := 1) hx hb dL_law_458 (by decide) ?_
        refine lv_iadd hx hb dL_law_459 ?_
        refine va_sld hx hb hX hbl hbA hS hin1 dL_law_460 ?_
        obtain ⟨r, e0, e1⟩ := st_told (a := a) (h := h) (b := b2) (t := 0) (w := w) (de := de) (sm := sm) hR (by omega) (by omega) (by omega) (xs (nI i + 1).toNatClampNeg)
        refine kc_l (wr := w1 q0 q1 q2 cC cD zs ns1 (nI w) sm (lN a) (lN h) (lN b2) (nI 0) de) (As := [.int (xs (nI i + 1).toNatClampNeg)]) (rest := []) [0, 1, 2] [3, 4, 5] [0, 1] 0 0 hCF (okX0_told l e0) (cwV 1 htl gL_law_X0_told rfl rfl rfl ydX0_told ⟨Nat.le_of_ble_eq_true rfl, Nat.le_of_ble_eq_true rfl⟩) hK hP hD hS hA rfl rfl rfl rfl rfl (by decide) rfl rfl rfl rfl hl.1 rfl (Nat.le_of_ble_eq_true rfl) dL_law_461 ⟨Nat.le_of_ble_eq_true rfl, Nat.le_of_ble_eq_true rfl⟩ (fun H locs hP hD hS => ?_)
        have hP : va_P (dC, dI) vwCl (w1 q0 q1 q2 cC cD zs ns1 (nI w) sm (lN a) (lN h) (lN b2) (nI 0) de ++ w0 o0 o1 o2 cA cB zs ns0 (nI a) (nI h) (nI b2) (nI 0) de (nI w) sm) H := hP
        have hD : va_D (fun q : Nat => s.heap.size ≤ q) (w1 q0 q1 q2 cC cD zs ns1 (nI w) sm (lN a) (lN h) (lN b2) (nI 0) de ++ w0 o0 o1 o2 cA cB zs ns0 (nI a) (nI h) (nI b2) (nI 0) de (nI w) sm) := hD
        refine lv_aload_n hx hb dL_law_464 rfl (lv_at hl 2 rfl) ?_
        refine lv_aload_n hx hb dL_law_465 rfl (lv_at hl 0 rfl) ?_
        refine lv_iload_n hx hb dL_law_466 rfl (lv_at hl 3 rfl) ?_
        refine lv_iconst (v := 1) hx hb dL_law_467 (by decide) ?_
        refine lv_iadd hx hb dL_law_468 ?_
        refine va_sld hx hb hX hbl hbA hS hin1 dL_law_469 ?_
        refine kc_l (wr := w0 o0 o1 o2 cA cB zs ns0 (nI a) (nI h) (nI b2) (nI 0) de (nI w) sm) (As := [.int (xs (nI i + 1).toNatClampNeg)]) (rest := [.long r]) [0, 1, 2] [3, 4, 5] [2, 3] 1 0 hCF (okX1_told l e1) (cwV 1 htl gL_law_X1_told rfl rfl rfl ydX1_told ⟨Nat.le_of_ble_eq_true rfl, Nat.le_of_ble_eq_true rfl⟩) hK hP hD hS hA rfl rfl rfl rfl rfl (by decide) rfl rfl rfl rfl hl.1 rfl (Nat.le_of_ble_eq_true rfl) dL_law_470 ⟨Nat.le_of_ble_eq_true rfl, Nat.le_of_ble_eq_true rfl⟩ (fun H locs hP hD hS => ?_)
        have hP : va_P (dC, dI) vwCl (w0 o0 o1 o2 cA cB zs ns0 (nI a) (nI h) (nI b2) (nI 0) de (nI w) sm ++ w1 q0 q1 q2 cC cD zs ns1 (nI w) sm (lN a) (lN h) (lN b2) (nI 0) de) H := hP
        have hD : va_D (fun q : Nat => s.heap.size ≤ q) (w0 o0 o1 o2 cA cB zs ns0 (nI a) (nI h) (nI b2) (nI 0) de (nI w) sm ++ w1 q0 q1 q2 cC cD zs ns1 (nI w) sm (lN a) (lN h) (lN b2) (nI 0) de) := hD
        refine W.lcmp hx hb dL_law_473 ?_
        refine lv_if_eq (tgt := 479) hx hb dL_law_474 (by decide) (fun _ => ?_) (fun cz => absurd (lg_same r) cz)
        exact tail H locs ls _ _ _ a h b2 w _ _ hR hw (by omega) (by omega) (by omega) hP hD hS hl
      refine lv_tableOut (tgt := 479) hx hb dL_law_32 (sw_law (by omega) hj) (by decide) ?_
      exact tail H locs ls zs ns0 ns1 a h b2 w de sm hR hw (by omega) (by omega) (by omega) hP hD hS hl
