/-! class and reference answer alike: share, spread, climb -/
theorem RR.num {zs n0 n1 : Nat → Int32} (h : RR zs n0 n1) {d j k : Nat} (hd : d < 8) (e : zs d = nI j) (h8 : j ≤ 8) (hk : k < j) : n1 (8 * d + k) = n0 (8 * d + k) := by
  obtain ⟨i, h1, h2, h3⟩ := h d hd
  have : i = j := (nI_eq (by omega) (by omega)).mp (h2.symm.trans e)
  subst this
  exact (h3 k hk).symm
theorem e0_fail {x : Int32} (h : ¬ (-11) < x) : fX0_isFailure x = some 1 := by
  unfold fX0_isFailure
  rw [if_neg h]
theorem e0_nofail {x : Int32} (h : (-11) < x) : fX0_isFailure x = some 0 := by
  unfold fX0_isFailure
  rw [if_pos h]
section OPS2
variable {zs ns ns0 ns1 : Nat → Int32} {a h b w t B : Nat} {de : Int32} {sm : Int64}
set_option maxHeartbeats 4000000 in
theorem sh_loop {d1 d2 p ja jb : Nat} (h1 : d1 < 8) (h2 : d2 < 8) (e1 : zs d1 = nI ja) (ha8 : ja ≤ 8) (e2 : zs d2 = nI jb) (hb8 : jb ≤ 8) (hp : p < jb) {ak hd br dp hn : Int32} {ak' hd' br' : Int64} : ∀ (k i : Nat) (n0 n1 : Nat → Int32), RR zs n0 n1 → i ≤ ja → ja - i < k → ∃ n0' n1', RR zs n0' n1' ∧ ((fX0_divideEach_3 k (nI d1) (nI d2) (nI p) (nI i) zs n0 ak hd br dp de hn sm = some (nI ja, zs, n0', ak, hd, br, dp, de, hn, sm) ∧ fX1_share_62 k (nI d1) (nI d2) (nI p) (nI i) zs n1 hn sm ak' hd' br' dp de = some (nI ja, zs, n1', hn, sm, ak', hd', br', dp - 2, de)) ∨ (fX0_divideEach_3 k (nI d1) (nI d2) (nI p) (nI i) zs n0 ak hd br dp de hn sm = some (-13, zs, n0', ak, hd, br, dp, de, hn, sm) ∧ fX1_share_62 k (nI d1) (nI d2) (nI p) (nI i) zs n1 hn sm ak' hd' br' dp de = some (-13, zs, n1', hn, sm, ak', hd', br' + (2 : Int32).toInt64, dp - 2, de))) := by
  intro k
  induction k with
  | zero => intro i n0 n1 hR h3 h4; omega
  | succ k ih =>
    intro i n0 n1 hR h3 h4
    by_cases hi : i = ja
    · subst hi
      refine ⟨n0, n1, hR, Or.inl ?_⟩
      simp only [fX0_divideEach_3, fX1_share_62, mt_cl (show d1 < 64 by omega), if_neg (mt_h8 h1), e1, if_pos (nI_le (Nat.le_refl i) (show i < 2 ^ 31 by omega)), e1_end0, Option.bind_some, Int32.zero_add]
      exact ⟨trivial, trivial⟩
    · have hq2 := hR.num h2 e2 hb8 hp
      have hq1 := hR.num h1 e1 ha8 (show i < ja by omega)
      by_cases hz : n0 (8 * d2 + p) = 0
      · refine ⟨n0, n1, hR, Or.inr ?_⟩
        simp only [fX0_divideEach_3, fX1_share_62, mt_cl (show d1 < 64 by omega), if_neg (mt_h8 h1), e1, if_neg (nI_ge (show i < ja by omega) (show ja < 2 ^ 31 by omega)), e0_hpY h2 e2 hp hb8, Option.bind_some, if_neg i10, e0_at h2 (show p < 8 by omega), mt_ix1, mt_cl (show 8 * d2 + p < 64 by omega), if_neg (mt_h64 (show 8 * d2 + p < 64 by omega)), hq2, hz, if_pos i00, e1_end3, if_true]
        exact ⟨trivial, trivial⟩
      · obtain ⟨n0', n1', q1, q2⟩ := ih (i + 1) (upd n0 (8 * d1 + i) (n0 (8 * d1 + i) / n0 (8 * d2 + p))) (upd n1 (8 * d1 + i) (n0 (8 * d1 + i) / n0 (8 * d2 + p))) (hR.upd _ _) (by omega) (by omega)
        refine ⟨n0', n1', q1, ?_⟩
        simp only [fX0_divideEach_3, fX1_share_62, mt_cl (show d1 < 64 by omega), if_neg (mt_h8 h1), e1, if_neg (nI_ge (show i < ja by omega) (show ja < 2 ^ 31 by omega)), e0_hpY h2 e2 hp hb8, Option.bind_some, if_neg i10, e0_at h2 (show p < 8 by omega), e0_at h1 (show i < 8 by omega), e0_put h1 (show i < 8 by omega), mt_ix1, mt_cl (show 8 * d2 + p < 64 by omega), if_neg (mt_h64 (show 8 * d2 + p < 64 by omega)), mt_cl (show 8 * d1 + i < 64 by omega), if_neg (mt_h64 (show 8 * d1 + i < 64 by omega)), hq1, hq2, if_neg hz, e1_quo hz, nI_1]
        exact q2
theorem sh_first {d1 d2 ja jb : Nat} {x : Int32} (h1 : d1 < 8) (h2 : d2 < 8) (e1 : zs d1 = nI ja) (h0 : 0 < ja) (ha8 : ja ≤ 8) (e2 : zs d2 = nI jb) (hx : x < 0 ∨ nI jb ≤ x) {ak hd br dp hn : Int32} : fX0_divideEach (nI d1) (nI d2) x zs ns ak hd br dp de hn sm = some (-12, zs, ns, ak, hd, br, dp, de, hn, sm) := by
  unfold fX0_divideEach
  rw [fX0_divideEach_3, if_neg (mt_g8 h1), mt_cl (by omega), e1, if_neg (show ¬ nI ja ≤ 0 from nI_nle h0 (by omega)), e0_hpN h2 e2 hx, Option.bind_some, if_pos i00]
set_option maxHeartbeats 4000000 in
theorem st_share (hR : RR zs ns0 ns1) (hw : w < 8) (ha : a ≤ B) (hh : h ≤ B) (hb : b ≤ B) (x1 x2 x3 : Int32) : PP t (B + 24) (fX0_share x1 x2 x3 zs ns0 (nI a) (nI h) (nI b) (nI t) de (nI w) sm) (fX1_share x1 x2 x3 zs ns1 (nI w) sm (lN a) (lN h) (lN b) (nI t) de) := by
  rcases pk_ix x1 (n := 8) (by decide) with hx | hx | ⟨d1, h1, rfl⟩
  · simp only [fX0_share, fX1_share, e0_isDeskN (Or.inl hx), e1_isDeskN (Or.inl hx), Option.bind_some, if_neg i10, if_pos i00, nI_1, lN_1, lN_2, lN_t1, lN_t2, nI_pred, nI_p2, e1_end0, e1_end1, e1_end2, e1_end3, e0_r11, e0_r12, e0_r13, e0_r1, if_true, if_false]
    exact ⟨-2, zs, ns0, ns1, a, h, b, w, de, sm, rfl, rfl, hR, by omega, by omega, by omega, hw⟩
  · simp only [fX0_share, fX1_share, e0_isDeskN (Or.inr hx), e1_isDeskN (Or.inr hx), Option.bind_some, if_neg i10, if_pos i00, nI_1, lN_1, lN_2, lN_t1, lN_t2, nI_pred, nI_p2, e1_end0, e1_end1, e1_end2, e1_end3, e0_r11, e0_r12, e0_r13, e0_r1, if_true, if_false]
    exact ⟨-2, zs, ns0, ns1, a, h, b, w, de, sm, rfl, rfl, hR, by omega, by omega, by omega, hw⟩
  rcases pk_ix x2 (n := 8) (by decide) with hx | hx | ⟨d2, h2, rfl⟩
  · simp only [fX0_share, fX1_share, e0_isDesk h1, e1_isDesk h1, e0_isDeskN (Or.inl hx), e1_isDeskN (Or.inl hx), Option.bind_some, if_neg i10, if_pos i00, nI_1, lN_1, lN_2, lN_t1, lN_t2, nI_pred, nI_p2, e1_end0, e1_end1, e1_end2, e1_end3, e0_r11, e0_r12, e0_r13, e0_r1, if_true, if_false]
    exact ⟨-2, zs, ns0, ns1, a, h, b, w, de, sm, rfl, rfl, hR, by omega, by omega, by omega, hw⟩
  · simp only [fX0_share, fX1_share, e0_isDesk h1, e1_isDesk h1, e0_isDeskN (Or.inr hx), e1_isDeskN (Or.inr hx), Option.bind_some, if_neg i10, if_pos i00, nI_1, lN_1, lN_2, lN_t1, lN_t2, nI_pred, nI_p2, e1_end0, e1_end1, e1_end2, e1_end3, e0_r11, e0_r12, e0_r13, e0_r1, if_true, if_false]
    exact ⟨-2, zs, ns0, ns1, a, h, b, w, de, sm, rfl, rfl, hR, by omega, by omega, by omega, hw⟩
  obtain ⟨ja, ha8, e1, -⟩ := hR d1 h1
  rcases Nat.eq_zero_or_pos ja with rfl | hja
  · simp only [fX0_share, fX1_share, e0_isDesk h1, e1_isDesk h1, e0_isDesk h2, e1_isDesk h2, e0_holdN h1 e1, e1_holdN h1 e1, Option.bind_some, if_neg i10, if_pos i00, nI_1, lN_1, lN_2, lN_t1, lN_t2, nI_pred, nI_p2, e1_end0, e1_end1, e1_end2, e1_end3, e0_r11, e0_r12, e0_r13, e0_r1, if_true, if_false]
    exact ⟨-11, zs, ns0, ns1, a + 1, h, b, w, de, sm, rfl, rfl, hR, by omega, by omega, by omega, hw⟩
  obtain ⟨jb, hb8, e2, -⟩ := hR d2 h2
  rcases Nat.eq_zero_or_pos jb with rfl | hjb
  · simp only [fX0_share, fX1_share, fX0_shareWithin, e0_isDesk h1, e1_isDesk h1, e0_isDesk h2, e1_isDesk h2, e0_holdY h1 e1 hja ha8, e1_holdY h1 e1 hja ha8, e0_holdN h2 e2, e1_holdN h2 e2, Option.bind_some, if_neg i10, if_pos i00, nI_1, lN_1, lN_2, lN_t1, lN_t2, nI_pred, nI_p2, e1_end0, e1_end1, e1_end2, e1_end3, e0_r11, e0_r12, e0_r13, e0_r1, if_true, if_false]
    exact ⟨-11, zs, ns0, ns1, a + 1 + 1, h + 1, b + 1, w, _, sm, rfl, rfl, hR, by omega, by omega, by omega, hw⟩
  have hN : x3 < 0 ∨ nI jb ≤ x3 → PP t (B + 24) (fX0_share (nI d1) (nI d2) x3 zs ns0 (nI a) (nI h) (nI b) (nI t) de (nI w) sm) (fX1_share (nI d1) (nI d2) x3 zs ns1 (nI w) sm (lN a) (lN h) (lN b) (nI t) de) := by
    intro hx
    simp only [fX0_share, fX1_share, fX0_shareWithin, e0_isDesk h1, e1_isDesk h1, e0_isDesk h2, e1_isDesk h2, e0_holdY h1 e1 hja ha8, e1_holdY h1 e1 hja ha8, e0_holdY h2 e2 hjb hb8, e1_holdY h2 e2 hjb hb8, sh_first h1 h2 e1 hja ha8 e2 hx, e1_ipN h2 e2 hjb hb8 hx, Option.bind_some, if_neg i10, if_pos i00, nI_1, lN_1, lN_2, lN_t1, lN_t2, nI_pred, nI_p2, e1_end0, e1_end1, e1_end2, e1_end3, e0_r11, e0_r12, e0_r13, e0_r1, if_true, if_false]
    exact ⟨-12, zs, ns0, ns1, a + 1 + 1, h + 1 + 1, b + 1 + 1, w, _, sm, rfl, rfl, hR, by omega, by omega, by omega, hw⟩
  rcases pk_ix x3 (n := jb) (by omega) with hx | hx | ⟨p, hp, rfl⟩
  · exact hN (Or.inl hx)
  · exact hN (Or.inr hx)
  obtain ⟨n0', n1', hR', q⟩ := sh_loop (de := mx (mx de (nI (t + 1))) (nI (t + 1 + 1))) (sm := sm) h1 h2 e1 ha8 e2 hb8 hp (ak := nI (a + 1 + 1)) (hd := nI (h + 1 + 1)) (br := nI b) (dp := nI (t + 1 + 1)) (hn := nI w) (ak' := lN (a + 1 + 1)) (hd' := lN (h + 1 + 1)) (br' := lN b) 9 0 ns0 ns1 hR (by omega) (by omega)
  rcases q with ⟨q0, q1⟩ | ⟨q0, q1⟩
  · have q0' : fX0_divideEach (nI d1) (nI d2) (nI p) zs ns0 (nI (a + 1 + 1)) (nI (h + 1 + 1)) (nI b) (nI (t + 1 + 1)) (mx (mx de (nI (t + 1))) (nI (t + 1 + 1))) (nI w) sm = _ := q0
    have q1' : fX1_share_62 9 (nI d1) (nI d2) (nI p) 0 zs ns1 (nI w) sm (lN (a + 1 + 1)) (lN (h + 1 + 1)) (lN b) (nI (t + 1 + 1)) (mx (mx de (nI (t + 1))) (nI (t + 1 + 1))) = _ := q1
    simp only [fX0_share, fX1_share, fX0_shareWithin, e0_isDesk h1, e1_isDesk h1, e0_isDesk h2, e1_isDesk h2, e0_holdY h1 e1 hja ha8, e1_holdY h1 e1 hja ha8, e0_holdY h2 e2 hjb hb8, e1_holdY h2 e2 hjb hb8, e1_ipY h2 e2 hp hb8, q0', q1', e0_relY (nI_ok (show ja < 2 ^ 31 by omega)), Option.bind_some, if_neg i10, if_pos i00, nI_1, lN_1, lN_2, lN_t1, lN_t2, nI_pred, nI_p2, e1_end0, e1_end1, e1_end2, e1_end3, e0_r11, e0_r12, e0_r13, e0_r1, if_true, if_false]
    exact ⟨nI ja, zs, n0', n1', a + 1 + 1, h + 1 + 1, b, w, _, sm, rfl, rfl, hR', by omega, by omega, by omega, hw⟩
  · have q0' : fX0_divideEach (nI d1) (nI d2) (nI p) zs ns0 (nI (a + 1 + 1)) (nI (h + 1 + 1)) (nI b) (nI (t + 1 + 1)) (mx (mx de (nI (t + 1))) (nI (t + 1 + 1))) (nI w) sm = _ := q0
    have q1' : fX1_share_62 9 (nI d1) (nI d2) (nI p) 0 zs ns1 (nI w) sm (lN (a + 1 + 1)) (lN (h + 1 + 1)) (lN b) (nI (t + 1 + 1)) (mx (mx de (nI (t + 1))) (nI (t + 1 + 1))) = _ := q1
    simp only [fX0_share, fX1_share, fX0_shareWithin, e0_isDesk h1, e1_isDesk h1, e0_isDesk h2, e1_isDesk h2, e0_holdY h1 e1 hja ha8, e1_holdY h1 e1 hja ha8, e0_holdY h2 e2 hjb hb8, e1_holdY h2 e2 hjb hb8, e1_ipY h2 e2 hp hb8, q0', q1', Option.bind_some, if_neg i10, if_pos i00, nI_1, lN_1, lN_2, lN_t1, lN_t2, nI_pred, nI_p2, e1_end0, e1_end1, e1_end2, e1_end3, e0_r11, e0_r12, e0_r13, e0_r1, if_true, if_false]
    exact ⟨-13, zs, n0', n1', a + 1 + 1, h + 1 + 1, b + 1 + 1, w, _, sm, rfl, rfl, hR', by omega, by omega, by omega, hw⟩
set_option maxHeartbeats 4000000 in
theorem sp_loop {d1 d2 ja jb : Nat} (h1 : d1 < 8) (h2 : d2 < 8) (e1 : zs d1 = nI ja) (ha8 : ja ≤ 8) (e2 : zs d2 = nI jb) (hb8 : jb ≤ 8) : ∀ (k i : Nat) (n0 n1 : Nat → Int32) (a h : Nat) (de : Int32), RR zs n0 n1 → i ≤ ja → ja - i < k → ∃ (r : Int32) (n0' n1' : Nat → Int32) (a' h' b' : Nat) (de' : Int32), RR zs n0' n1' ∧ a' ≤ a + (ja - i) ∧ h' ≤ h + (ja - i) ∧ b' ≤ b + 1 ∧ fX0_spreadWithin_2 k (nI d1) (nI d2) (nI i) zs n0 (nI a) (nI h) (nI b) (nI (t + 1)) de (nI w) sm = some (r, zs, n0', nI a', nI h', nI b', nI (t + 1), de', nI w, sm) ∧ (((-11) < r ∧ fX1_spread_30 k (nI d1) (nI d2) (nI i) zs n1 (nI w) sm (lN a) (lN h) (lN b) (nI (t + 1)) de = some (r, zs, n1', nI w, sm, lN a', lN h', lN b', nI t, de')) ∨ (¬ (-11) < r ∧ fX1_spread_30 k (nI d1) (nI d2) (nI i) zs n1 (nI w) sm (lN a) (lN h) (lN b) (nI (t + 1)) de = some (r, zs, n1', nI w, sm, lN a', lN h', lN (b' + 1), nI t, de'))) := by
  intro k
  induction k with
  | zero => intro i n0 n1 a h de hR h3 h4; omega
  | succ k ih =>
    intro i n0 n1 a h de hR h3 h4
    by_cases hi : i = ja
    · subst hi
      refine ⟨nI i, n0, n1, a, h, b, de, hR, by omega, by omega, by omega, ?_, Or.inl ⟨nI_ok (by omega), ?_⟩⟩
      · simp only [fX0_spreadWithin_2, mt_cl (show d1 < 64 by omega), if_neg (mt_h8 h1), e1, if_pos (nI_le (Nat.le_refl i) (show i < 2 ^ 31 by omega))]
      · simp only [fX1_spread_30, mt_cl (show d1 < 64 by omega), if_neg (mt_h8 h1), e1, if_pos (nI_le (Nat.le_refl i) (show i < 2 ^ 31 by omega)), Int32.zero_add, Option.bind_some, if_neg i10, if_pos i00, nI_1, lN_1, lN_2, lN_t1, lN_t2, nI_pred, nI_p2, e1_end0, e1_end1, e1_end2, e1_end3, e0_r11, e0_r12, e0_r13, e0_r1, if_true, if_false]
    · have hlt : ¬ nI ja ≤ nI i := nI_ge (by omega) (by omega)
      rcases Nat.eq_zero_or_pos jb with rfl | hjb
      · refine ⟨-11, n0, n1, a + 1, h, b, de, hR, by omega, by omega, by omega, ?_, Or.inr ⟨by decide, ?_⟩⟩
        · simp only [fX0_spreadWithin_2, fX0_spreadAt, mt_cl (show d1 < 64 by omega), if_neg (mt_h8 h1), e1, if_neg hlt, e0_holdN h2 e2, e0_fail (show ¬ (-11) < (-11 : Int32) by decide), Option.bind_some, if_neg i10, if_pos i00, nI_1, lN_1, lN_2, lN_t1, lN_t2, nI_pred, nI_p2, e1_end0, e1_end1, e1_end2, e1_end3, e0_r11, e0_r12, e0_r13, e0_r1, if_true, if_false]
        · simp only [fX1_spread_30, mt_cl (show d1 < 64 by omega), if_neg (mt_h8 h1), e1, if_neg hlt, e1_holdN h2 e2, Option.bind_some, if_neg i10, if_pos i00, nI_1, lN_1, lN_2, lN_t1, lN_t2, nI_pred, nI_p2, e1_end0, e1_end1, e1_end2, e1_end3, e0_r11, e0_r12, e0_r13, e0_r1, if_true, if_false]
      · by_cases hp : i < jb
        · have hq2 := hR.num h2 e2 hb8 hp
          have hq1 := hR.num h1 e1 ha8 (show i < ja by omega)
          by_cases hz : n0 (8 * d2 + i) = 0
          · refine ⟨-13, n0, n1, a + 1, h + 1, b + 1, mx de (nI (t + 1 + 1)), hR, by omega, by omega, by omega, ?_, Or.inr ⟨by decide, ?_⟩⟩
            · simp only [fX0_spreadWithin_2, fX0_spreadAt, fX0_addQuotient, mt_cl (show d1 < 64 by omega), if_neg (mt_h8 h1), e1, if_neg hlt, e0_holdY h2 e2 hjb hb8, e0_hpY h2 e2 hp hb8, e0_at h2 (show i < 8 by omega), hz, e0_fail (show ¬ (-11) < (-13 : Int32) by decide), Option.bind_some, if_neg i10, if_pos i00, nI_1, lN_1, lN_2, lN_t1, lN_t2, nI_pred, nI_p2, e1_end0, e1_end1, e1_end2, e1_end3, e0_r11, e0_r12, e0_r13, e0_r1, if_true, if_false]
            · simp only [fX1_spread_30, mt_cl (show d1 < 64 by omega), if_neg (mt_h8 h1), e1, if_neg hlt, e1_holdY h2 e2 hjb hb8, e1_ipY h2 e2 hp hb8, mt_ix1, mt_cl (show 8 * d2 + i < 64 by omega), if_neg (mt_h64 (show 8 * d2 + i < 64 by omega)), hq2, hz, Option.bind_some, if_neg i10, if_pos i00, nI_1, lN_1, lN_2, lN_t1, lN_t2, nI_pred, nI_p2, e1_end0, e1_end1, e1_end2, e1_end3, e0_r11, e0_r12, e0_r13, e0_r1, if_true, if_false]
          · obtain ⟨r, n0', n1', a', h', b', de', p1, p2, p3, p4, p5, p6⟩ := ih (i + 1) (upd n0 (8 * d2 + i) (n0 (8 * d2 + i) + n0 (8 * d1 + i) / n0 (8 * d2 + i))) (upd n1 (8 * d2 + i) (n0 (8 * d2 + i) + n0 (8 * d1 + i) / n0 (8 * d2 + i))) (a + 1) (h + 1) (mx de (nI (t + 1 + 1))) (hR.upd _ _) (by omega) (by omega)
            refine ⟨r, n0', n1', a', h', b', de', p1, by omega, by omega, by omega, ?_, ?_⟩
            · simp only [fX0_spreadWithin_2, fX0_spreadAt, fX0_addQuotient, mt_cl (show d1 < 64 by omega), if_neg (mt_h8 h1), e1, if_neg hlt, e0_holdY h2 e2 hjb hb8, e0_hpY h2 e2 hp hb8, e0_at h2 (show i < 8 by omega), e0_at h1 (show i < 8 by omega), e0_put h2 (show i < 8 by omega), if_neg hz, e0_nofail (show (-11) < (1 : Int32) by decide), Option.bind_some, if_neg i10, if_pos i00, nI_1, lN_1, lN_2, lN_t1, lN_t2, nI_pred, nI_p2, e1_end0, e1_end1, e1_end2, e1_end3, e0_r11, e0_r12, e0_r13, e0_r1, if_true, if_false]
              exact p5
            · simp only [fX1_spread_30, mt_cl (show d1 < 64 by omega), if_neg (mt_h8 h1), e1, if_neg hlt, e1_holdY h2 e2 hjb hb8, e1_ipY h2 e2 hp hb8, mt_ix1, mt_cl (show 8 * d2 + i < 64 by omega), if_neg (mt_h64 (show 8 * d2 + i < 64 by omega)), mt_cl (show 8 * d1 + i < 64 by omega), if_neg (mt_h64 (show 8 * d1 + i < 64 by omega)), hq1, hq2, if_neg hz, e1_quo hz, Option.bind_some, if_neg i10, if_pos i00, nI_1, lN_1, lN_2, lN_t1, lN_t2, nI_pred, nI_p2, e1_end0, e1_end1, e1_end2, e1_end3, e0_r11, e0_r12, e0_r13, e0_r1, if_true, if_false]
              exact p6
        · have hx : nI i < 0 ∨ nI jb ≤ nI i := Or.inr (nI_le (by omega) (by omega))
          refine ⟨-12, n0, n1, a + 1, h + 1, b + 1, mx de (nI (t + 1 + 1)), hR, by omega, by omega, by omega, ?_, Or.inr ⟨by decide, ?_⟩⟩
          · simp only [fX0_spreadWithin_2, fX0_spreadAt, fX0_addQuotient, mt_cl (show d1 < 64 by omega), if_neg (mt_h8 h1), e1, if_neg hlt, e0_holdY h2 e2 hjb hb8, e0_hpN h2 e2 hx, e0_fail (show ¬ (-11) < (-12 : Int32) by decide), Option.bind_some, if_neg i10, if_pos i00, nI_1, lN_1, lN_2, lN_t1, lN_t2, nI_pred, nI_p2, e1_end0, e1_end1, e1_end2, e1_end3, e0_r11, e0_r12, e0_r13, e0_r1, if_true, if_false]
          · simp only [fX1_spread_30, mt_cl (show d1 < 64 by omega), if_neg (mt_h8 h1), e1, if_neg hlt, e1_holdY h2 e2 hjb hb8, e1_ipN h2 e2 hjb hb8 hx, Option.bind_some, if_neg i10, if_pos i00, nI_1, lN_1, lN_2, lN_t1, lN_t2, nI_pred, nI_p2, e1_end0, e1_end1, e1_end2, e1_end3, e0_r11, e0_r12, e0_r13, e0_r1, if_true, if_false]
set_option maxHeartbeats 4000000 in
theorem st_spread (hR : RR zs ns0 ns1) (hw : w < 8) (ha : a ≤ B) (hh : h ≤ B) (hb : b ≤ B) (x1 x2 : Int32) : PP t (B + 24) (fX0_spread x1 x2 zs ns0 (nI a) (nI h) (nI b) (nI t) de (nI w) sm) (fX1_spread x1 x2 zs ns1 (nI w) sm (lN a) (lN h) (lN b) (nI t) de) := by
  rcases pk_ix x1 (n := 8) (by decide) with hx | hx | ⟨d1, h1, rfl⟩
  · simp only [fX0_spread, fX1_spread, e0_isDeskN (Or.inl hx), e1_isDeskN (Or.inl hx), Option.bind_some, if_neg i10, if_pos i00, nI_1, lN_1, lN_2, lN_t1, lN_t2, nI_pred, nI_p2, e1_end0, e1_end1, e1_end2, e1_end3, e0_r11, e0_r12, e0_r13, e0_r1, if_true, if_false]
    exact ⟨-2, zs, ns0, ns1, a, h, b, w, de, sm, rfl, rfl, hR, by omega, by omega, by omega, hw⟩
  · simp only [fX0_spread, fX1_spread, e0_isDeskN (Or.inr hx), e1_isDeskN (Or.inr hx), Option.bind_some, if_neg i10, if_pos i00, nI_1, lN_1, lN_2, lN_t1, lN_t2, nI_pred, nI_p2, e1_end0, e1_end1, e1_end2, e1_end3, e0_r11, e0_r12, e0_r13, e0_r1, if_true, if_false]
    exact ⟨-2, zs, ns0, ns1, a, h, b, w, de, sm, rfl, rfl, hR, by omega, by omega, by omega, hw⟩
  rcases pk_ix x2 (n := 8) (by decide) with hx | hx | ⟨d2, h2, rfl⟩
  · simp only [fX0_spread, fX1_spread, e0_isDesk h1, e1_isDesk h1, e0_isDeskN (Or.inl hx), e1_isDeskN (Or.inl hx), Option.bind_some, if_neg i10, if_pos i00, nI_1, lN_1, lN_2, lN_t1, lN_t2, nI_pred, nI_p2, e1_end0, e1_end1, e1_end2, e1_end3, e0_r11, e0_r12, e0_r13, e0_r1, if_true, if_false]
    exact ⟨-2, zs, ns0, ns1, a, h, b, w, de, sm, rfl, rfl, hR, by omega, by omega, by omega, hw⟩
  · simp only [fX0_spread, fX1_spread, e0_isDesk h1, e1_isDesk h1, e0_isDeskN (Or.inr hx), e1_isDeskN (Or.inr hx), Option.bind_some, if_neg i10, if_pos i00, nI_1, lN_1, lN_2, lN_t1, lN_t2, nI_pred, nI_p2, e1_end0, e1_end1, e1_end2, e1_end3, e0_r11, e0_r12, e0_r13, e0_r1, if_true, if_false]
    exact ⟨-2, zs, ns0, ns1, a, h, b, w, de, sm, rfl, rfl, hR, by omega, by omega, by omega, hw⟩
  obtain ⟨ja, ha8, e1, -⟩ := hR d1 h1
  rcases Nat.eq_zero_or_pos ja with rfl | hja
  · simp only [fX0_spread, fX1_spread, e0_isDesk h1, e1_isDesk h1, e0_isDesk h2, e1_isDesk h2, e0_holdN h1 e1, e1_holdN h1 e1, Option.bind_some, if_neg i10, if_pos i00, nI_1, lN_1, lN_2, lN_t1, lN_t2, nI_pred, nI_p2, e1_end0, e1_end1, e1_end2, e1_end3, e0_r11, e0_r12, e0_r13, e0_r1, if_true, if_false]
    exact ⟨-11, zs, ns0, ns1, a + 1, h, b, w, de, sm, rfl, rfl, hR, by omega, by omega, by omega, hw⟩
  obtain ⟨jb, hb8, e2, -⟩ := hR d2 h2
  obtain ⟨r, n0', n1', a', h', b', de', p1, p2, p3, p4, p5, p6⟩ := sp_loop (b := b) (t := t) (w := w) (sm := sm) h1 h2 e1 ha8 e2 hb8 9 0 ns0 ns1 (a + 1) (h + 1) (mx de (nI (t + 1))) hR (by omega) (by omega)
  have p5' : fX0_spreadWithin (nI d1) (nI d2) zs ns0 (nI (a + 1)) (nI (h + 1)) (nI b) (nI (t + 1)) (mx de (nI (t + 1))) (nI w) sm = _ := p5
  rcases p6 with ⟨hr, p6⟩ | ⟨hr, p6⟩
  · have p6' : fX1_spread_30 9 (nI d1) (nI d2) 0 zs ns1 (nI w) sm (lN (a + 1)) (lN (h + 1)) (lN b) (nI (t + 1)) (mx de (nI (t + 1))) = _ := p6
    simp only [fX0_spread, fX1_spread, e0_isDesk h1, e1_isDesk h1, e0_isDesk h2, e1_isDesk h2, e0_holdY h1 e1 hja ha8, e1_holdY h1 e1 hja ha8, p5', p6', e0_relY hr, Option.bind_some, if_neg i10, if_pos i00, nI_1, lN_1, lN_2, lN_t1, lN_t2, nI_pred, nI_p2, e1_end0, e1_end1, e1_end2, e1_end3, e0_r11, e0_r12, e0_r13, e0_r1, if_true, if_false]
    exact ⟨r, zs, n0', n1', a', h', b', w, _, sm, rfl, rfl, p1, by omega, by omega, by omega, hw⟩
  · have p6' : fX1_spread_30 9 (nI d1) (nI d2) 0 zs ns1 (nI w) sm (lN (a + 1)) (lN (h + 1)) (lN b) (nI (t + 1)) (mx de (nI (t + 1))) = _ := p6
    simp only [fX0_spread, fX1_spread, e0_isDesk h1, e1_isDesk h1, e0_isDesk h2, e1_isDesk h2, e0_holdY h1 e1 hja ha8, e1_holdY h1 e1 hja ha8, p5', p6', e0_relN hr, Option.bind_some, if_neg i10, if_pos i00, nI_1, lN_1, lN_2, lN_t1, lN_t2, nI_pred, nI_p2, e1_end0, e1_end1, e1_end2, e1_end3, e0_r11, e0_r12, e0_r13, e0_r1, if_true, if_false]
    exact ⟨r, zs, n0', n1', a', h', b' + 1, w, _, sm, rfl, rfl, p1, by omega, by omega, by omega, hw⟩
end OPS2
