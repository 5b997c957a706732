/-! class and reference answer alike: open, close, write, number, told -/
theorem lN_2 (b : Nat) : lN b + 2 = lN (b + 2) := by
  show lN b + lN 2 = _
  rw [lN_add]
theorem lN_t1 (b : Nat) : lN b + (1 : Int32).toInt64 = lN (b + 1) := by
  rw [show (1 : Int32).toInt64 = 1 from by decide, lN_1]
theorem lN_t2 (b : Nat) : lN b + (2 : Int32).toInt64 = lN (b + 2) := by
  rw [show (2 : Int32).toInt64 = 2 from by decide, lN_2]
theorem nI_p2 (t : Nat) : nI (t + 1 + 1) - 2 = nI t := by
  show nI (t + 2) - nI 2 = _
  rw [pk_sub (by omega), Nat.add_sub_cancel]
theorem mt_h64 {q : Nat} (h : q < 64) : ¬ (nI q < 0 ∨ 64 ≤ q) := fun z => by
  rcases z with z | z
  · exact nI_pos (by omega) z
  · omega
theorem mt_h8 {q : Nat} (h : q < 8) : ¬ (nI q < 0 ∨ 8 ≤ q) := fun z => by
  rcases z with z | z
  · exact nI_pos (by omega) z
  · omega
section OPS1
variable {zs ns ns0 ns1 : Nat → Int32} {a h b w t B : Nat} {de : Int32} {sm : Int64}
theorem e1_end1 {hn dp : Int32} {ak hd br : Int64} {x : Int32} : fX1_ends x 1 zs ns hn sm ak hd br dp de = some (-11, zs, ns, hn, sm, ak, hd, br + x.toInt64, dp - x, de) := e1_endF (by decide)
theorem e1_end2 {hn dp : Int32} {ak hd br : Int64} {x : Int32} : fX1_ends x 2 zs ns hn sm ak hd br dp de = some (-12, zs, ns, hn, sm, ak, hd, br + x.toInt64, dp - x, de) := e1_endF (by decide)
theorem e1_end3 {hn dp : Int32} {ak hd br : Int64} {x : Int32} : fX1_ends x 3 zs ns hn sm ak hd br dp de = some (-13, zs, ns, hn, sm, ak, hd, br + x.toInt64, dp - x, de) := e1_endF (by decide)
theorem e0_r11 {ak hd br dp hn : Int32} : fX0_release (-11) zs ns ak hd br dp de hn sm = some (-11, zs, ns, ak, hd, br + 1, dp - 1, de, hn, sm) := e0_relN (by decide)
theorem e0_r12 {ak hd br dp hn : Int32} : fX0_release (-12) zs ns ak hd br dp de hn sm = some (-12, zs, ns, ak, hd, br + 1, dp - 1, de, hn, sm) := e0_relN (by decide)
theorem e0_r13 {ak hd br dp hn : Int32} : fX0_release (-13) zs ns ak hd br dp de hn sm = some (-13, zs, ns, ak, hd, br + 1, dp - 1, de, hn, sm) := e0_relN (by decide)
theorem e0_r1 {ak hd br dp hn : Int32} : fX0_release 1 zs ns ak hd br dp de hn sm = some (1, zs, ns, ak, hd, br, dp - 1, de, hn, sm) := e0_relY (by decide)
set_option maxHeartbeats 4000000 in
theorem st_write (hR : RR zs ns0 ns1) (hw : w < 8) (ha : a ≤ B) (hh : h ≤ B) (hb : b ≤ B) (x1 x2 x3 : Int32) : PP t (B + 24) (fX0_write x1 x2 x3 zs ns0 (nI a) (nI h) (nI b) (nI t) de (nI w) sm) (fX1_write x1 x2 x3 zs ns1 (nI w) sm (lN a) (lN h) (lN b) (nI t) de) := by
  rcases pk_ix x1 (n := 8) (by decide) with hx | hx | ⟨d, hd, rfl⟩
  · simp only [fX0_write, fX1_write, e0_isDeskN (Or.inl hx), e1_isDeskN (Or.inl hx), Option.bind_some, if_neg i10, if_pos i00, nI_1, lN_1, lN_2, lN_t1, lN_t2, nI_pred, nI_p2, e1_end0, e1_end1, e1_end2, e1_end3, e0_r11, e0_r12, e0_r13, e0_r1, if_true, if_false]
    exact ⟨-2, zs, ns0, ns1, a, h, b, w, de, sm, rfl, rfl, hR, by omega, by omega, by omega, hw⟩
  · simp only [fX0_write, fX1_write, e0_isDeskN (Or.inr hx), e1_isDeskN (Or.inr hx), Option.bind_some, if_neg i10, if_pos i00, nI_1, lN_1, lN_2, lN_t1, lN_t2, nI_pred, nI_p2, e1_end0, e1_end1, e1_end2, e1_end3, e0_r11, e0_r12, e0_r13, e0_r1, if_true, if_false]
    exact ⟨-2, zs, ns0, ns1, a, h, b, w, de, sm, rfl, rfl, hR, by omega, by omega, by omega, hw⟩
  · obtain ⟨j, h8, e, hk⟩ := hR d hd
    rcases Nat.eq_zero_or_pos j with rfl | h0
    · simp only [fX0_write, fX1_write, e0_isDesk hd, e1_isDesk hd, e0_holdN hd e, e1_holdN hd e, Option.bind_some, if_neg i10, if_pos i00, nI_1, lN_1, lN_2, lN_t1, lN_t2, nI_pred, nI_p2, e1_end0, e1_end1, e1_end2, e1_end3, e0_r11, e0_r12, e0_r13, e0_r1, if_true, if_false]
      exact ⟨-11, zs, ns0, ns1, a + 1, h, b, w, de, sm, rfl, rfl, hR, by omega, by omega, by omega, hw⟩
    · rcases pk_ix x2 (n := j) (by omega) with hx | hx | ⟨k, hkj, rfl⟩
      · simp only [fX0_write, fX1_write, fX0_writeHeld, e0_isDesk hd, e1_isDesk hd, e0_holdY hd e h0 h8, e1_holdY hd e h0 h8, e0_hpN hd e (Or.inl hx), e1_ipN hd e h0 h8 (Or.inl hx), Option.bind_some, if_neg i10, if_pos i00, nI_1, lN_1, lN_2, lN_t1, lN_t2, nI_pred, nI_p2, e1_end0, e1_end1, e1_end2, e1_end3, e0_r11, e0_r12, e0_r13, e0_r1, if_true, if_false]
        exact ⟨-12, zs, ns0, ns1, a + 1, h + 1, b + 1, w, _, sm, rfl, rfl, hR, by omega, by omega, by omega, hw⟩
      · simp only [fX0_write, fX1_write, fX0_writeHeld, e0_isDesk hd, e1_isDesk hd, e0_holdY hd e h0 h8, e1_holdY hd e h0 h8, e0_hpN hd e (Or.inr hx), e1_ipN hd e h0 h8 (Or.inr hx), Option.bind_some, if_neg i10, if_pos i00, nI_1, lN_1, lN_2, lN_t1, lN_t2, nI_pred, nI_p2, e1_end0, e1_end1, e1_end2, e1_end3, e0_r11, e0_r12, e0_r13, e0_r1, if_true, if_false]
        exact ⟨-12, zs, ns0, ns1, a + 1, h + 1, b + 1, w, _, sm, rfl, rfl, hR, by omega, by omega, by omega, hw⟩
      · simp only [fX0_write, fX1_write, fX0_writeHeld, e0_isDesk hd, e1_isDesk hd, e0_holdY hd e h0 h8, e1_holdY hd e h0 h8, e0_hpY hd e hkj h8, e1_ipY hd e hkj h8, e0_put hd (show k < 8 by omega), mt_ix1, mt_cl (show 8 * d + k < 64 by omega), if_neg (mt_h64 (show 8 * d + k < 64 by omega)), Option.bind_some, if_neg i10, if_pos i00, nI_1, lN_1, lN_2, lN_t1, lN_t2, nI_pred, nI_p2, e1_end0, e1_end1, e1_end2, e1_end3, e0_r11, e0_r12, e0_r13, e0_r1, if_true, if_false]
        exact ⟨1, zs, _, _, a + 1, h + 1, b, w, _, sm, rfl, rfl, hR.upd _ _, by omega, by omega, by omega, hw⟩
set_option maxHeartbeats 4000000 in
theorem st_close (hR : RR zs ns0 ns1) (hw : w < 8) (ha : a ≤ B) (hh : h ≤ B) (hb : b ≤ B) (x1 : Int32) : PP t (B + 24) (fX0_close x1 zs ns0 (nI a) (nI h) (nI b) (nI t) de (nI w) sm) (fX1_close x1 zs ns1 (nI w) sm (lN a) (lN h) (lN b) (nI t) de) := by
  rcases pk_ix x1 (n := 8) (by decide) with hx | hx | ⟨d, hd, rfl⟩
  · simp only [fX0_close, fX1_close, e0_isDeskN (Or.inl hx), e1_isDeskN (Or.inl hx), Option.bind_some, if_neg i10, if_pos i00, nI_1, lN_1, lN_2, lN_t1, lN_t2, nI_pred, nI_p2, e1_end0, e1_end1, e1_end2, e1_end3, e0_r11, e0_r12, e0_r13, e0_r1, if_true, if_false]
    exact ⟨-2, zs, ns0, ns1, a, h, b, w, de, sm, rfl, rfl, hR, by omega, by omega, by omega, hw⟩
  · simp only [fX0_close, fX1_close, e0_isDeskN (Or.inr hx), e1_isDeskN (Or.inr hx), Option.bind_some, if_neg i10, if_pos i00, nI_1, lN_1, lN_2, lN_t1, lN_t2, nI_pred, nI_p2, e1_end0, e1_end1, e1_end2, e1_end3, e0_r11, e0_r12, e0_r13, e0_r1, if_true, if_false]
    exact ⟨-2, zs, ns0, ns1, a, h, b, w, de, sm, rfl, rfl, hR, by omega, by omega, by omega, hw⟩
  · obtain ⟨j, h8, e, hk⟩ := hR d hd
    have hc : RR (upd zs d 0) ns0 ns1 := by
      intro d2 hd2
      by_cases hdd : d2 = d
      · subst hdd
        exact ⟨0, by omega, by rw [upd_s]; rfl, fun k hk => by omega⟩
      · rw [upd_n hdd]
        exact hR d2 hd2
    rcases Nat.eq_zero_or_pos j with rfl | h0
    · have hz : upd zs d 0 = zs := by
        have := upd_id (f := zs) (k := d)
        rw [e] at this
        exact this
      simp only [fX0_close, fX1_close, e0_isDesk hd, e1_isDesk hd, e0_isThereN hd e, mt_cl (show d < 64 by omega), if_neg (mt_h8 hd), e, if_pos (show nI 0 ≤ 0 by decide), hz, Option.bind_some, if_neg i10, if_pos i00, nI_1, lN_1, lN_2, lN_t1, lN_t2, nI_pred, nI_p2, e1_end0, e1_end1, e1_end2, e1_end3, e0_r11, e0_r12, e0_r13, e0_r1, if_true, if_false]
      exact ⟨0, zs, ns0, ns1, a, h, b, w, de, sm, rfl, rfl, hR, by omega, by omega, by omega, hw⟩
    · simp only [fX0_close, fX1_close, e0_isDesk hd, e1_isDesk hd, e0_isThereY hd e h0 h8, mt_cl (show d < 64 by omega), if_neg (mt_h8 hd), e, if_neg (nI_nle h0 (show j < 2 ^ 31 by omega)), Option.bind_some, if_neg i10, if_pos i00, nI_1, lN_1, lN_2, lN_t1, lN_t2, nI_pred, nI_p2, e1_end0, e1_end1, e1_end2, e1_end3, e0_r11, e0_r12, e0_r13, e0_r1, if_true, if_false]
      exact ⟨1, _, ns0, ns1, a, h, b, w, de, sm, rfl, rfl, hc, by omega, by omega, by omega, hw⟩
theorem lo0 {d c : Nat} (hd : d < 8) (hc : c ≤ 8) {ak hd' br dp hn : Int32} : ∀ (k i : Nat) (ns : Nat → Int32), i ≤ c → c - i < k → ∃ ns', fX0_open_40 k (nI d) (nI c) (nI i) zs ns ak hd' br dp de hn sm = some (1, zs, ns', ak, hd', br, dp, de, hn, sm) ∧ (∀ q, q < 8 * d + i ∨ 8 * d + c ≤ q → ns' q = ns q) ∧ ∀ q, 8 * d + i ≤ q → q < 8 * d + c → ns' q = 0 := by
  intro k
  induction k with
  | zero => intro i ns h1 h2; omega
  | succ k ih =>
    intro i ns h1 h2
    rw [fX0_open_40]
    by_cases hi : i = c
    · subst hi
      rw [if_pos (nI_le (Nat.le_refl _) (by omega))]
      exact ⟨ns, rfl, fun _ _ => rfl, fun q h3 h4 => by omega⟩
    · obtain ⟨ns', e1, e2, e3⟩ := ih (i + 1) (upd ns (8 * d + i) 0) (by omega) (by omega)
      rw [if_neg (nI_ge (by omega) (by omega)), e0_put hd (by omega), Option.bind_some, nI_1]
      refine ⟨ns', e1, fun q hq => ?_, fun q h3 h4 => ?_⟩
      · rw [e2 q (by omega), upd_n (by omega)]
      · by_cases hq : q = 8 * d + i
        · rw [e2 q (by omega), hq, upd_s]
        · exact e3 q (by omega) h4
theorem lo1 {d : Nat} (hd : d < 8) {y hn dp : Int32} {ak hd' br : Int64} : ∀ (k i : Nat) (ns : Nat → Int32), i ≤ 8 → 8 - i < k → ∃ ns', fX1_open_40 k (nI d) y (nI i) zs ns hn sm ak hd' br dp de = some (1, zs, ns', hn, sm, ak, hd', br, dp, de) ∧ (∀ q, q < 8 * d + i ∨ 8 * d + 8 ≤ q → ns' q = ns q) ∧ ∀ q, 8 * d + i ≤ q → q < 8 * d + 8 → ns' q = 0 := by
  intro k
  induction k with
  | zero => intro i ns h1 h2; omega
  | succ k ih =>
    intro i ns h1 h2
    rw [fX1_open_40]
    by_cases hi : i = 8
    · subst hi
      rw [if_pos (by decide)]
      exact ⟨ns, rfl, fun _ _ => rfl, fun q h3 h4 => by omega⟩
    · obtain ⟨ns', e1, e2, e3⟩ := ih (i + 1) (upd ns (8 * d + i) 0) (by omega) (by omega)
      rw [if_neg (show ¬ (8 : Int32) ≤ nI i from nI_ge (b := 8) (by omega) (by omega)), mt_ix1, if_neg (mt_g64 (by omega)), mt_cl (by omega), nI_1]
      refine ⟨ns', e1, fun q hq => ?_, fun q h3 h4 => ?_⟩
      · rw [e2 q (by omega), upd_n (by omega)]
      · by_cases hq : q = 8 * d + i
        · rw [e2 q (by omega), hq, upd_s]
        · exact e3 q (by omega) h4
set_option maxHeartbeats 4000000 in
theorem st_open (hR : RR zs ns0 ns1) (hw : w < 8) (ha : a ≤ B) (hh : h ≤ B) (hb : b ≤ B) (x1 x2 : Int32) : PP t (B + 24) (fX0_open x1 x2 zs ns0 (nI a) (nI h) (nI b) (nI t) de (nI w) sm) (fX1_open x1 x2 zs ns1 (nI w) sm (lN a) (lN h) (lN b) (nI t) de) := by
  rcases pk_ix x1 (n := 8) (by decide) with hx | hx | ⟨d, hd, rfl⟩
  · simp only [fX0_open, fX1_open, e0_isDeskN (Or.inl hx), e1_isDeskN (Or.inl hx), Option.bind_some, if_neg i10, if_pos i00, nI_1, lN_1, lN_2, lN_t1, lN_t2, nI_pred, nI_p2, e1_end0, e1_end1, e1_end2, e1_end3, e0_r11, e0_r12, e0_r13, e0_r1, if_true, if_false]
    exact ⟨-2, zs, ns0, ns1, a, h, b, w, de, sm, rfl, rfl, hR, by omega, by omega, by omega, hw⟩
  · simp only [fX0_open, fX1_open, e0_isDeskN (Or.inr hx), e1_isDeskN (Or.inr hx), Option.bind_some, if_neg i10, if_pos i00, nI_1, lN_1, lN_2, lN_t1, lN_t2, nI_pred, nI_p2, e1_end0, e1_end1, e1_end2, e1_end3, e0_r11, e0_r12, e0_r13, e0_r1, if_true, if_false]
    exact ⟨-2, zs, ns0, ns1, a, h, b, w, de, sm, rfl, rfl, hR, by omega, by omega, by omega, hw⟩
  · by_cases hc1 : x2 < 1
    · simp only [fX0_open, fX1_open, e0_isDesk hd, e1_isDesk hd, if_pos hc1, e1_inN (lo := 1) (hi := 8) (Or.inl hc1), Option.bind_some, if_neg i10, if_pos i00, nI_1, lN_1, lN_2, lN_t1, lN_t2, nI_pred, nI_p2, e1_end0, e1_end1, e1_end2, e1_end3, e0_r11, e0_r12, e0_r13, e0_r1, if_true, if_false]
      exact ⟨-2, zs, ns0, ns1, a, h, b, w, de, sm, rfl, rfl, hR, by omega, by omega, by omega, hw⟩
    by_cases hc2 : x2 ≤ 8
    · have hc2' : ¬ 8 < x2 := Int32.not_lt.mpr hc2
      obtain ⟨c, hc3, hc4, rfl⟩ : ∃ c, 1 ≤ c ∧ c ≤ 8 ∧ x2 = nI c := by
        obtain ⟨c, h1, h2⟩ := nI_of2 (x := x2) (M := 8) (n := 8) rfl (fun z => hc1 (by rw [i_lt] at z ⊢; have : (0 : Int32).toInt = 0 := rfl; show _ < (1 : Int); omega)) hc2
        refine ⟨c, ?_, h1, h2⟩
        rcases Nat.eq_zero_or_pos c with rfl | hp
        · exact absurd (by rw [h2]; decide) hc1
        · exact hp
      obtain ⟨j, h8, e, hk⟩ := hR d hd
      rcases Nat.eq_zero_or_pos j with rfl | h0
      · obtain ⟨n0, p1, p2, p3⟩ := lo0 (zs := upd zs d (nI c)) (de := de) (sm := sm) hd hc4 (ak := nI a) (hd' := nI h) (br := nI b) (dp := nI t) (hn := nI w) 9 0 ns0 (by omega) (by omega)
        obtain ⟨n1, q1, q2, q3⟩ := lo1 (zs := upd zs d (nI c)) (de := de) (sm := sm) hd (y := nI c) (hn := nI w) (dp := nI t) (ak := lN a) (hd' := lN h) (br := lN b) 9 0 ns1 (by omega) (by omega)
        simp only [fX0_open, fX1_open, e0_isDesk hd, e1_isDesk hd, if_neg hc1, if_pos hc2, e1_inY hc1 hc2', e0_isThereN hd e, mt_cl (show d < 64 by omega), if_neg (mt_h8 hd), e, if_pos (show nI 0 ≤ 0 by decide), Option.bind_some, if_neg i10, if_pos i00, nI_1, lN_1, lN_2, lN_t1, lN_t2, nI_pred, nI_p2, e1_end0, e1_end1, e1_end2, e1_end3, e0_r11, e0_r12, e0_r13, e0_r1, if_true, if_false]
        refine ⟨1, _, n0, n1, a, h, b, w, de, sm, p1, q1, ?_, by omega, by omega, by omega, hw⟩
        intro d2 hd2
        by_cases hdd : d2 = d
        · subst hdd
          exact ⟨c, hc4, upd_s, fun k hk => by rw [p3 _ (by omega) (by omega), q3 _ (by omega) (by omega)]⟩
        · obtain ⟨j2, g1, g2, g3⟩ := hR d2 hd2
          refine ⟨j2, g1, by rw [upd_n hdd]; exact g2, fun k hk => ?_⟩
          rw [p2 _ (by omega), q2 _ (by omega)]
          exact g3 k hk
      · simp only [fX0_open, fX1_open, e0_isDesk hd, e1_isDesk hd, if_neg hc1, if_pos hc2, e1_inY hc1 hc2', e0_isThereY hd e h0 h8, mt_cl (show d < 64 by omega), if_neg (mt_h8 hd), e, if_neg (nI_nle h0 (show j < 2 ^ 31 by omega)), Option.bind_some, if_neg i10, if_pos i00, nI_1, lN_1, lN_2, lN_t1, lN_t2, nI_pred, nI_p2, e1_end0, e1_end1, e1_end2, e1_end3, e0_r11, e0_r12, e0_r13, e0_r1, if_true, if_false]
        exact ⟨0, zs, ns0, ns1, a, h, b, w, de, sm, rfl, rfl, hR, by omega, by omega, by omega, hw⟩
    · simp only [fX0_open, fX1_open, e0_isDesk hd, e1_isDesk hd, if_neg hc1, if_neg hc2, e1_inN (lo := 1) (hi := 8) (Or.inr (Int32.not_le.mp hc2)), Option.bind_some, if_neg i10, if_pos i00, nI_1, lN_1, lN_2, lN_t1, lN_t2, nI_pred, nI_p2, e1_end0, e1_end1, e1_end2, e1_end3, e0_r11, e0_r12, e0_r13, e0_r1, if_true, if_false]
      exact ⟨-2, zs, ns0, ns1, a, h, b, w, de, sm, rfl, rfl, hR, by omega, by omega, by omega, hw⟩
set_option maxHeartbeats 4000000 in
theorem st_number (hR : RR zs ns0 ns1) (x1 x2 : Int32) : ∃ r, fX0_number x1 x2 zs ns0 (nI a) (nI h) (nI b) (nI t) de (nI w) sm = some r ∧ fX1_number x1 x2 zs ns1 (nI w) sm (lN a) (lN h) (lN b) (nI t) de = some r := by
  rcases pk_ix x1 (n := 8) (by decide) with hx | hx | ⟨d, hd, rfl⟩
  · simp only [fX0_number, fX1_number, e0_hpD (Or.inl hx), e1_isDeskN (Or.inl hx), Option.bind_some, if_neg i10, if_pos i00, nI_1, lN_1, lN_2, lN_t1, lN_t2, nI_pred, nI_p2, e1_end0, e1_end1, e1_end2, e1_end3, e0_r11, e0_r12, e0_r13, e0_r1, if_true, if_false]
    exact ⟨_, rfl, rfl⟩
  · simp only [fX0_number, fX1_number, e0_hpD (Or.inr hx), e1_isDeskN (Or.inr hx), Option.bind_some, if_neg i10, if_pos i00, nI_1, lN_1, lN_2, lN_t1, lN_t2, nI_pred, nI_p2, e1_end0, e1_end1, e1_end2, e1_end3, e0_r11, e0_r12, e0_r13, e0_r1, if_true, if_false]
    exact ⟨_, rfl, rfl⟩
  · obtain ⟨j, h8, e, hk⟩ := hR d hd
    rcases Nat.eq_zero_or_pos j with rfl | h0
    · have hx : x2 < 0 ∨ nI 0 ≤ x2 := by
        by_cases hx : x2 < 0
        · exact Or.inl hx
        · exact Or.inr (Int32.not_lt.mp hx)
      simp only [fX0_number, fX1_number, e1_isDesk hd, e0_hpN hd e hx, e1_ipZ hd e, Option.bind_some, if_neg i10, if_pos i00, nI_1, lN_1, lN_2, lN_t1, lN_t2, nI_pred, nI_p2, e1_end0, e1_end1, e1_end2, e1_end3, e0_r11, e0_r12, e0_r13, e0_r1, if_true, if_false]
      exact ⟨_, rfl, rfl⟩
    · rcases pk_ix x2 (n := j) (by omega) with hx | hx | ⟨k, hkj, rfl⟩
      · simp only [fX0_number, fX1_number, e1_isDesk hd, e0_hpN hd e (Or.inl hx), e1_ipN hd e h0 h8 (Or.inl hx), Option.bind_some, if_neg i10, if_pos i00, nI_1, lN_1, lN_2, lN_t1, lN_t2, nI_pred, nI_p2, e1_end0, e1_end1, e1_end2, e1_end3, e0_r11, e0_r12, e0_r13, e0_r1, if_true, if_false]
        exact ⟨_, rfl, rfl⟩
      · simp only [fX0_number, fX1_number, e1_isDesk hd, e0_hpN hd e (Or.inr hx), e1_ipN hd e h0 h8 (Or.inr hx), Option.bind_some, if_neg i10, if_pos i00, nI_1, lN_1, lN_2, lN_t1, lN_t2, nI_pred, nI_p2, e1_end0, e1_end1, e1_end2, e1_end3, e0_r11, e0_r12, e0_r13, e0_r1, if_true, if_false]
        exact ⟨_, rfl, rfl⟩
      · simp only [fX0_number, fX1_number, e1_isDesk hd, e0_hpY hd e hkj h8, e1_ipY hd e hkj h8, e0_at hd (show k < 8 by omega), mt_ix1, mt_cl (show 8 * d + k < 64 by omega), if_neg (mt_h64 (show 8 * d + k < 64 by omega)), hk k hkj, Option.bind_some, if_neg i10, if_pos i00, nI_1, lN_1, lN_2, lN_t1, lN_t2, nI_pred, nI_p2, e1_end0, e1_end1, e1_end2, e1_end3, e0_r11, e0_r12, e0_r13, e0_r1, if_true, if_false]
        exact ⟨_, rfl, rfl⟩
set_option maxHeartbeats 4000000 in
theorem ct_both (hR : RR zs ns0 ns1) (x1 : Int32) {hn dp : Int32} {ak hd br : Int64} {ak' hd' br' dp' hn' : Int32} : ∀ (k i : Nat) (y : Int32), i ≤ 8 → 8 - i < k → ∃ r, fX0_countThere_4 k y (nI i) zs ns0 ak' hd' br' dp' de hn' sm = some r ∧ fX1_told_4 k x1 y (nI i) zs ns1 hn sm ak hd br dp de = fX1_told_4 1 x1 r 8 zs ns1 hn sm ak hd br dp de := by
  intro k
  induction k with
  | zero => intro i y h1 h2; omega
  | succ k ih =>
    intro i y h1 h2
    rw [fX0_countThere_4, fX1_told_4]
    by_cases hi : i = 8
    · subst hi
      rw [if_pos (show (8 : Int32) ≤ nI 8 by decide), if_pos (show (8 : Int32) ≤ nI 8 by decide)]
      refine ⟨y, rfl, ?_⟩
      rw [fX1_told_4, if_pos (show (8 : Int32) ≤ 8 by decide)]
    · have hd8 : i < 8 := by omega
      obtain ⟨j, h8, e, hk⟩ := hR i hd8
      have hn8 : ¬ (8 : Int32) ≤ nI i := nI_ge (b := 8) hd8 (by decide)
      rcases Nat.eq_zero_or_pos j with rfl | h0
      · obtain ⟨r, p1, p2⟩ := ih (i + 1) y (by omega) (by omega)
        refine ⟨r, ?_, ?_⟩
        · rw [if_neg hn8, e0_isThereN hd8 e, Option.bind_some, if_pos i00, nI_1]
          exact p1
        · rw [if_neg hn8, if_neg (mt_g8 hd8), mt_cl (by omega), e, if_pos (by decide), Int32.add_zero, nI_1]
          exact p2
      · obtain ⟨r, p1, p2⟩ := ih (i + 1) (y + 1) (by omega) (by omega)
        refine ⟨r, ?_, ?_⟩
        · rw [if_neg hn8, e0_isThereY hd8 e h0 h8, Option.bind_some, if_neg i10, nI_1]
          exact p1
        · rw [if_neg hn8, if_neg (mt_g8 hd8), mt_cl (by omega), e, if_neg (nI_nle h0 (by omega)), nI_1]
          exact p2
set_option maxHeartbeats 4000000 in
theorem st_told (hR : RR zs ns0 ns1) (ha : a < 2 ^ 31) (hh : h < 2 ^ 31) (hb : b < 2 ^ 31) (x1 : Int32) : ∃ r, fX0_told x1 zs ns0 (nI a) (nI h) (nI b) (nI t) de (nI w) sm = some r ∧ fX1_told x1 zs ns1 (nI w) sm (lN a) (lN h) (lN b) (nI t) de = some r := by
  obtain ⟨c, p1, p2⟩ := ct_both (de := de) (sm := sm) hR x1 (hn := nI w) (dp := nI t) (ak := lN a) (hd := lN h) (br := lN b) (ak' := nI a) (hd' := nI h) (br' := nI b) (dp' := nI t) (hn' := nI w) 9 0 0 (by omega) (by omega)
  have e1 : fX1_told x1 zs ns1 (nI w) sm (lN a) (lN h) (lN b) (nI t) de = fX1_told_4 1 x1 c 8 zs ns1 (nI w) sm (lN a) (lN h) (lN b) (nI t) de := p2
  have e0 : fX0_countThere zs ns0 (nI a) (nI h) (nI b) (nI t) de (nI w) sm = some c := p1
  rw [e1, fX1_told_4, if_pos (show (8 : Int32) ≤ 8 by decide)]
  unfold fX0_told
  rw [e0, Option.bind_some, nI_l ha, nI_l hh, nI_l hb]
  by_cases c0 : x1 = 0
  · rw [if_pos c0]; exact ⟨_, rfl, rfl⟩
  rw [if_neg c0]
  by_cases c1 : x1 = 1
  · rw [if_pos c1]; exact ⟨_, rfl, rfl⟩
  rw [if_neg c1]
  by_cases c2 : x1 = 2
  · rw [if_pos c2]; exact ⟨_, rfl, rfl⟩
  rw [if_neg c2]
  by_cases c3 : x1 = 3
  · rw [if_pos c3]; exact ⟨_, rfl, rfl⟩
  rw [if_neg c3]
  by_cases c4 : x1 = 4
  · rw [if_pos c4]; exact ⟨_, rfl, rfl⟩
  rw [if_neg c4]
  by_cases c5 : x1 = 5
  · rw [if_pos c5]; exact ⟨_, rfl, rfl⟩
  rw [if_neg c5]
  by_cases c6 : x1 = 6
  · rw [if_pos c6]; exact ⟨_, rfl, rfl⟩
  rw [if_neg c6]
  by_cases c7 : x1 = 7
  · rw [if_pos c7]; exact ⟨_, rfl, rfl⟩
  rw [if_neg c7]
  exact ⟨_, rfl, rfl⟩
end OPS1
