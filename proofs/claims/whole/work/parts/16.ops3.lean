/-! class and reference answer alike: climb -/
section OPS3
variable {zs ns ns0 ns1 : Nat → Int32} {a h b w t B : Nat} {de : Int32} {sm : Int64}
theorem e0_at0 {d : Nat} (h : d < 8) {ak hd br dp hn : Int32} : fX0_at (nI d) 0 zs ns ak hd br dp de hn sm = some (ns (8 * d)) := e0_at (k := 0) h (by decide)
theorem e0_put0 {d : Nat} (h : d < 8) {ak hd br dp hn v : Int32} : fX0_put (nI d) 0 v zs ns ak hd br dp de hn sm = some (zs, upd ns (8 * d) v, ak, hd, br, dp, de, hn, sm) := e0_put (k := 0) h (by decide)
theorem lN_tn {b i : Nat} (h : i < 2 ^ 31) : lN b + (nI i).toInt64 = lN (b + i) := by
  rw [nI_l h, lN_add]
theorem nI_sb {t i D : Nat} (h : D = t + i) : nI D - nI i = nI t := by
  subst h
  rw [pk_sub (by omega), Nat.add_sub_cancel]
set_option maxHeartbeats 4000000 in
theorem cl_loop {d n j : Nat} (hd : d < 8) (e : zs d = nI j) (h8 : j ≤ 8) (hn12 : n ≤ 12) : ∀ (m kf k1 i D : Nat) (n0 n1 : Nat → Int32) (a h b : Nat) (de : Int32) (sm : Int64), n = i + m + 1 → m < kf → m + 1 < k1 → D = t + i → RR zs n0 n1 → ∃ (r : Int32) (n0' n1' : Nat → Int32) (a' h' b' : Nat) (de' : Int32) (sm' : Int64), RR zs n0' n1' ∧ a' ≤ a + (m + 1) ∧ h' ≤ h + (m + 1) ∧ b' ≤ b + (m + 1) ∧ fX0_climbFrom kf (nI d) (nI i) (nI n) zs n0 (nI a) (nI h) (nI b) (nI D) de (nI w) sm = some (r, zs, n0', nI a', nI h', nI b', nI D, de', nI w, sm') ∧ (((-11) < r ∧ fX1_climb_22 k1 (nI d) (nI n) (nI i) zs n1 (nI w) sm (lN a) (lN h) (lN b) (nI D) de = some (r, zs, n1', nI w, sm', lN a', lN h', lN b', nI t, de')) ∨ (¬ (-11) < r ∧ fX1_climb_22 k1 (nI d) (nI n) (nI i) zs n1 (nI w) sm (lN a) (lN h) (lN b) (nI D) de = some (r, zs, n1', nI w, sm', lN a', lN h', lN (b' + i), nI t, de'))) := by
  intro m
  induction m with
  | zero =>
    intro kf k1 i D n0 n1 a h b de sm hnn hkf hk1 hD hR
    obtain ⟨kf, rfl⟩ : ∃ z, kf = z + 1 := ⟨kf - 1, by omega⟩
    obtain ⟨k1, rfl⟩ : ∃ z, k1 = z + 1 + 1 := ⟨k1 - 2, by omega⟩
    have hlt : ¬ nI n ≤ nI i := nI_ge (by omega) (by omega)
    rcases Nat.eq_zero_or_pos j with rfl | hj
    · refine ⟨-11, n0, n1, a + 1, h, b, de, sm, hR, by omega, by omega, by omega, ?_, Or.inr ⟨by decide, ?_⟩⟩
      · simp only [fX0_climbFrom, e0_holdN hd e, Option.bind_some, if_neg i10, if_pos i00, nI_1, lN_1, lN_2, lN_t1, lN_t2, nI_pred, nI_p2, e1_end0, e1_end1, e1_end2, e1_end3, e0_r11, e0_r12, e0_r13, e0_r1, if_true, if_false]
      · simp only [fX1_climb_22, if_neg hlt, e1_holdN hd e, lN_tn (show i < 2 ^ 31 by omega), nI_sb hD, Option.bind_some, if_neg i10, if_pos i00, nI_1, lN_1, lN_2, lN_t1, lN_t2, nI_pred, nI_p2, e1_end0, e1_end1, e1_end2, e1_end3, e0_r11, e0_r12, e0_r13, e0_r1, if_true, if_false]
    · by_cases hp : i < j
      · have hq := hR.num hd e h8 hp
        have hle : nI n ≤ nI (i + 1) := nI_le (by omega) (by omega)
        have hq0 : upd n1 (8 * d + i) (n0 (8 * d + i) + nI i) (8 * d) = upd n0 (8 * d + i) (n0 (8 * d + i) + nI i) (8 * d) := (hR.upd _ _).num (k := 0) hd e h8 hj
        refine ⟨nI n, upd n0 (8 * d + i) (n0 (8 * d + i) + nI i), upd n1 (8 * d + i) (n0 (8 * d + i) + nI i), a + 1, h + 1, b, mx de (nI (D + 1)), sm + (upd n0 (8 * d + i) (n0 (8 * d + i) + nI i) (8 * d)).toInt64, hR.upd _ _, by omega, by omega, by omega, ?_, Or.inl ⟨nI_ok (by omega), ?_⟩⟩
        · simp only [fX0_climbFrom, fX0_climbWithin, e0_holdY hd e hj h8, e0_hpY hd e hp h8, e0_at hd (show i < 8 by omega), e0_put hd (show i < 8 by omega), if_pos hle, e0_at0 hd, e0_relY (nI_ok (show n < 2 ^ 31 by omega)), Option.bind_some, if_neg i10, if_pos i00, nI_1, lN_1, lN_2, lN_t1, lN_t2, nI_pred, nI_p2, e1_end0, e1_end1, e1_end2, e1_end3, e0_r11, e0_r12, e0_r13, e0_r1, if_true, if_false]
        · simp only [fX1_climb_22, if_neg hlt, e1_holdY hd e hj h8, e1_ipY hd e hp h8, mt_ix2, nI_add, mt_cl (show 8 * d + i < 64 by omega), if_neg (mt_h64 (show 8 * d + i < 64 by omega)), mt_cl (show 8 * d < 64 by omega), if_neg (mt_h64 (show 8 * d < 64 by omega)), if_pos hle, hq, hq0, nI_sb (show D + 1 = t + n by omega), Int32.zero_add, Option.bind_some, if_neg i10, if_pos i00, nI_1, lN_1, lN_2, lN_t1, lN_t2, nI_pred, nI_p2, e1_end0, e1_end1, e1_end2, e1_end3, e0_r11, e0_r12, e0_r13, e0_r1, if_true, if_false]
      · have hx : nI i < 0 ∨ nI j ≤ nI i := Or.inr (nI_le (by omega) (by omega))
        refine ⟨-12, n0, n1, a + 1, h + 1, b + 1, mx de (nI (D + 1)), sm, hR, by omega, by omega, by omega, ?_, Or.inr ⟨by decide, ?_⟩⟩
        · simp only [fX0_climbFrom, fX0_climbWithin, e0_holdY hd e hj h8, e0_hpN hd e hx, Option.bind_some, if_neg i10, if_pos i00, nI_1, lN_1, lN_2, lN_t1, lN_t2, nI_pred, nI_p2, e1_end0, e1_end1, e1_end2, e1_end3, e0_r11, e0_r12, e0_r13, e0_r1, if_true, if_false]
        · simp only [fX1_climb_22, if_neg hlt, e1_holdY hd e hj h8, e1_ipN hd e hj h8 hx, lN_tn (show i + 1 < 2 ^ 31 by omega), nI_sb (show D + 1 = t + (i + 1) by omega), show b + (i + 1) = b + 1 + i by omega, Option.bind_some, if_neg i10, if_pos i00, nI_1, lN_1, lN_2, lN_t1, lN_t2, nI_pred, nI_p2, e1_end0, e1_end1, e1_end2, e1_end3, e0_r11, e0_r12, e0_r13, e0_r1, if_true, if_false]
  | succ m ih =>
    intro kf k1 i D n0 n1 a h b de sm hnn hkf hk1 hD hR
    obtain ⟨kf, rfl⟩ : ∃ z, kf = z + 1 := ⟨kf - 1, by omega⟩
    obtain ⟨k1, rfl⟩ : ∃ z, k1 = z + 1 := ⟨k1 - 1, by omega⟩
    have hlt : ¬ nI n ≤ nI i := nI_ge (by omega) (by omega)
    rcases Nat.eq_zero_or_pos j with rfl | hj
    · refine ⟨-11, n0, n1, a + 1, h, b, de, sm, hR, by omega, by omega, by omega, ?_, Or.inr ⟨by decide, ?_⟩⟩
      · simp only [fX0_climbFrom, e0_holdN hd e, Option.bind_some, if_neg i10, if_pos i00, nI_1, lN_1, lN_2, lN_t1, lN_t2, nI_pred, nI_p2, e1_end0, e1_end1, e1_end2, e1_end3, e0_r11, e0_r12, e0_r13, e0_r1, if_true, if_false]
      · simp only [fX1_climb_22, if_neg hlt, e1_holdN hd e, lN_tn (show i < 2 ^ 31 by omega), nI_sb hD, Option.bind_some, if_neg i10, if_pos i00, nI_1, lN_1, lN_2, lN_t1, lN_t2, nI_pred, nI_p2, e1_end0, e1_end1, e1_end2, e1_end3, e0_r11, e0_r12, e0_r13, e0_r1, if_true, if_false]
    · by_cases hp : i < j
      · have hq := hR.num hd e h8 hp
        have hgt : ¬ nI n ≤ nI (i + 1) := nI_ge (by omega) (by omega)
        have hg12 : ¬ (12 : Int32) ≤ nI (i + 1) := nI_ge (b := 12) (by omega) (by decide)
        obtain ⟨r, n0', n1', a', h', b', de', sm', p1, p2, p3, p4, p5, p6⟩ := ih kf k1 (i + 1) (D + 1) (upd n0 (8 * d + i) (n0 (8 * d + i) + nI i)) (upd n1 (8 * d + i) (n0 (8 * d + i) + nI i)) (a + 1) (h + 1) b (mx de (nI (D + 1))) sm (by omega) (by omega) (by omega) (by omega) (hR.upd _ _)
        have f1 : fX1_climb_22 (k1 + 1) (nI d) (nI n) (nI i) zs n1 (nI w) sm (lN a) (lN h) (lN b) (nI D) de = fX1_climb_22 k1 (nI d) (nI n) (nI (i + 1)) zs (upd n1 (8 * d + i) (n0 (8 * d + i) + nI i)) (nI w) sm (lN (a + 1)) (lN (h + 1)) (lN b) (nI (D + 1)) (mx de (nI (D + 1))) := by
          rw [fX1_climb_22]
          simp only [if_neg hlt, e1_holdY hd e hj h8, e1_ipY hd e hp h8, mt_ix1, mt_cl (show 8 * d + i < 64 by omega), if_neg (mt_h64 (show 8 * d + i < 64 by omega)), hq, Option.bind_some, if_neg i10, if_pos i00, nI_1, lN_1, lN_2, lN_t1, lN_t2, nI_pred, nI_p2, e1_end0, e1_end1, e1_end2, e1_end3, e0_r11, e0_r12, e0_r13, e0_r1, if_true, if_false]
        rcases p6 with ⟨hr, p6⟩ | ⟨hr, p6⟩
        · refine ⟨r, n0', n1', a', h', b', de', sm', p1, by omega, by omega, by omega, ?_, Or.inl ⟨hr, f1.trans p6⟩⟩
          simp only [fX0_climbFrom, fX0_climbWithin, e0_holdY hd e hj h8, e0_hpY hd e hp h8, e0_at hd (show i < 8 by omega), e0_put hd (show i < 8 by omega), if_neg hgt, if_neg hg12, p5, e0_relY hr, Option.bind_some, if_neg i10, if_pos i00, nI_1, lN_1, lN_2, lN_t1, lN_t2, nI_pred, nI_p2, e1_end0, e1_end1, e1_end2, e1_end3, e0_r11, e0_r12, e0_r13, e0_r1, if_true, if_false]
        · refine ⟨r, n0', n1', a', h', b' + 1, de', sm', p1, by omega, by omega, by omega, ?_, Or.inr ⟨hr, ?_⟩⟩
          · simp only [fX0_climbFrom, fX0_climbWithin, e0_holdY hd e hj h8, e0_hpY hd e hp h8, e0_at hd (show i < 8 by omega), e0_put hd (show i < 8 by omega), if_neg hgt, if_neg hg12, p5, e0_relN hr, Option.bind_some, if_neg i10, if_pos i00, nI_1, lN_1, lN_2, lN_t1, lN_t2, nI_pred, nI_p2, e1_end0, e1_end1, e1_end2, e1_end3, e0_r11, e0_r12, e0_r13, e0_r1, if_true, if_false]
          · rw [f1, p6, show b' + (i + 1) = b' + 1 + i by omega]
      · have hx : nI i < 0 ∨ nI j ≤ nI i := Or.inr (nI_le (by omega) (by omega))
        refine ⟨-12, n0, n1, a + 1, h + 1, b + 1, mx de (nI (D + 1)), sm, hR, by omega, by omega, by omega, ?_, Or.inr ⟨by decide, ?_⟩⟩
        · simp only [fX0_climbFrom, fX0_climbWithin, e0_holdY hd e hj h8, e0_hpN hd e hx, Option.bind_some, if_neg i10, if_pos i00, nI_1, lN_1, lN_2, lN_t1, lN_t2, nI_pred, nI_p2, e1_end0, e1_end1, e1_end2, e1_end3, e0_r11, e0_r12, e0_r13, e0_r1, if_true, if_false]
        · simp only [fX1_climb_22, if_neg hlt, e1_holdY hd e hj h8, e1_ipN hd e hj h8 hx, lN_tn (show i + 1 < 2 ^ 31 by omega), nI_sb (show D + 1 = t + (i + 1) by omega), show b + (i + 1) = b + 1 + i by omega, Option.bind_some, if_neg i10, if_pos i00, nI_1, lN_1, lN_2, lN_t1, lN_t2, nI_pred, nI_p2, e1_end0, e1_end1, e1_end2, e1_end3, e0_r11, e0_r12, e0_r13, e0_r1, if_true, if_false]
theorem in_range {x : Int32} {N : Nat} {M : Int32} (hM : M.toInt = N) (h1 : ¬ x < 1) (h2 : x ≤ M) : ∃ c, 1 ≤ c ∧ c ≤ N ∧ x = nI c := by
  obtain ⟨c, q1, q2⟩ := nI_of2 (x := x) (M := M) (n := N) hM (fun z => h1 (by rw [i_lt] at z ⊢; have : (0 : Int32).toInt = 0 := rfl; show _ < (1 : Int); omega)) h2
  refine ⟨c, ?_, q1, q2⟩
  rcases Nat.eq_zero_or_pos c with rfl | hp
  · exact absurd (by rw [q2]; decide) h1
  · exact hp
set_option maxHeartbeats 4000000 in
theorem st_climb (hR : RR zs ns0 ns1) (hw : w < 8) (ha : a ≤ B) (hh : h ≤ B) (hb : b ≤ B) (x1 x2 : Int32) : PP t (B + 24) (fX0_climb x1 x2 zs ns0 (nI a) (nI h) (nI b) (nI t) de (nI w) sm) (fX1_climb x1 x2 zs ns1 (nI w) sm (lN a) (lN h) (lN b) (nI t) de) := by
  rcases pk_ix x1 (n := 8) (by decide) with hx | hx | ⟨d, hd, rfl⟩
  · simp only [fX0_climb, fX1_climb, e0_isDeskN (Or.inl hx), e1_isDeskN (Or.inl hx), Option.bind_some, if_neg i10, if_pos i00, nI_1, lN_1, lN_2, lN_t1, lN_t2, nI_pred, nI_p2, e1_end0, e1_end1, e1_end2, e1_end3, e0_r11, e0_r12, e0_r13, e0_r1, if_true, if_false]
    exact ⟨-2, zs, ns0, ns1, a, h, b, w, de, sm, rfl, rfl, hR, by omega, by omega, by omega, hw⟩
  · simp only [fX0_climb, fX1_climb, e0_isDeskN (Or.inr hx), e1_isDeskN (Or.inr hx), Option.bind_some, if_neg i10, if_pos i00, nI_1, lN_1, lN_2, lN_t1, lN_t2, nI_pred, nI_p2, e1_end0, e1_end1, e1_end2, e1_end3, e0_r11, e0_r12, e0_r13, e0_r1, if_true, if_false]
    exact ⟨-2, zs, ns0, ns1, a, h, b, w, de, sm, rfl, rfl, hR, by omega, by omega, by omega, hw⟩
  by_cases hc1 : x2 < 1
  · simp only [fX0_climb, fX1_climb, e0_isDesk hd, e1_isDesk hd, if_pos hc1, e1_inN (lo := 1) (hi := 12) (Or.inl hc1), Option.bind_some, if_neg i10, if_pos i00, nI_1, lN_1, lN_2, lN_t1, lN_t2, nI_pred, nI_p2, e1_end0, e1_end1, e1_end2, e1_end3, e0_r11, e0_r12, e0_r13, e0_r1, if_true, if_false]
    exact ⟨-2, zs, ns0, ns1, a, h, b, w, de, sm, rfl, rfl, hR, by omega, by omega, by omega, hw⟩
  by_cases hc2 : x2 ≤ 12
  · have hc2' : ¬ 12 < x2 := Int32.not_lt.mpr hc2
    obtain ⟨n, hn1, hn2, rfl⟩ := in_range (N := 12) (M := 12) rfl hc1 hc2
    obtain ⟨j, h8, e, -⟩ := hR d hd
    obtain ⟨r, n0', n1', a', h', b', de', sm', p1, p2, p3, p4, p5, p6⟩ := cl_loop (t := t) (w := w) hd e h8 hn2 (n - 1) 12 13 0 t ns0 ns1 a h b de sm (by omega) (by omega) (by omega) (by omega) hR
    have p5' : fX0_climbFrom 12 (nI d) 0 (nI n) zs ns0 (nI a) (nI h) (nI b) (nI t) de (nI w) sm = _ := p5
    have p6' : fX1_climb_22 13 (nI d) (nI n) 0 zs ns1 (nI w) sm (lN a) (lN h) (lN b) (nI t) de = some (r, zs, n1', nI w, sm', lN a', lN h', lN b', nI t, de') := by
      rcases p6 with ⟨hr, p6⟩ | ⟨hr, p6⟩ <;> exact p6
    simp only [fX0_climb, fX1_climb, e0_isDesk hd, e1_isDesk hd, if_neg hc1, if_pos hc2, e1_inY hc1 hc2', p5', p6', Option.bind_some, if_neg i10, if_pos i00, nI_1, lN_1, lN_2, lN_t1, lN_t2, nI_pred, nI_p2, e1_end0, e1_end1, e1_end2, e1_end3, e0_r11, e0_r12, e0_r13, e0_r1, if_true, if_false]
    exact ⟨r, zs, n0', n1', a', h', b', w, de', sm', rfl, rfl, p1, by omega, by omega, by omega, hw⟩
  · simp only [fX0_climb, fX1_climb, e0_isDesk hd, e1_isDesk hd, if_neg hc1, if_neg hc2, e1_inN (lo := 1) (hi := 12) (Or.inr (Int32.not_le.mp hc2)), Option.bind_some, if_neg i10, if_pos i00, nI_1, lN_1, lN_2, lN_t1, lN_t2, nI_pred, nI_p2, e1_end0, e1_end1, e1_end2, e1_end3, e0_r11, e0_r12, e0_r13, e0_r1, if_true, if_false]
    exact ⟨-2, zs, ns0, ns1, a, h, b, w, de, sm, rfl, rfl, hR, by omega, by omega, by omega, hw⟩
end OPS3
