/-! class and reference answer alike: find, rounds, bring -/
section OPS4
variable {zs ns ns0 ns1 : Nat → Int32} {a h b w t B : Nat} {de : Int32} {sm : Int64}
theorem nI_m1 {k : Nat} (h : k < 2 ^ 31) : ¬ nI k = -1 := fun z => by
  have := nI_toInt h
  rw [z] at this
  have q : (-1 : Int32).toInt = -1 := rfl
  omega
theorem po_hit {d j k0 : Nat} {v : Int32} (hd : d < 8) (e : zs d = nI j) (h8 : j ≤ 8) (h0 : k0 < j) (hv : ns (8 * d + k0) = v) (hm : ∀ i, i < k0 → ¬ ns (8 * d + i) = v) {ak hd' br dp hn : Int32} : ∀ (k i : Nat), i ≤ k0 → k0 - i < k → fX0_placeOf_2 k (nI d) v (nI i) zs ns ak hd' br dp de hn sm = some (nI k0) := by
  intro k
  induction k with
  | zero => intro i h1 h2; omega
  | succ k ih =>
    intro i h1 h2
    rw [fX0_placeOf_2, if_neg (mt_g8 hd), mt_cl (by omega), e, if_neg (nI_ge (by omega) (by omega)), e0_at hd (by omega), Option.bind_some]
    by_cases hi : i = k0
    · subst hi
      rw [if_pos hv]
    · rw [if_neg (hm i (by omega)), nI_1]
      exact ih (i + 1) (by omega) (by omega)
theorem po_miss {d j : Nat} {v : Int32} (hd : d < 8) (e : zs d = nI j) (h8 : j ≤ 8) (hm : ∀ i, i < j → ¬ ns (8 * d + i) = v) {ak hd' br dp hn : Int32} : ∀ (k i : Nat), i ≤ j → j - i < k → fX0_placeOf_2 k (nI d) v (nI i) zs ns ak hd' br dp de hn sm = some (-1) := by
  intro k
  induction k with
  | zero => intro i h1 h2; omega
  | succ k ih =>
    intro i h1 h2
    rw [fX0_placeOf_2, if_neg (mt_g8 hd), mt_cl (by omega), e]
    by_cases hi : i = j
    · subst hi
      rw [if_pos (nI_le (Nat.le_refl _) (by omega))]
    · rw [if_neg (nI_ge (by omega) (by omega)), e0_at hd (by omega), Option.bind_some, if_neg (hm i (by omega)), nI_1]
      exact ih (i + 1) (by omega) (by omega)
theorem fd_loop {d j : Nat} {v : Int32} (hd : d < 8) (h8 : j ≤ 8) (F : Int32 → Nat → Int32) (hF0 : ∀ y, F y 0 = y) (hFs : ∀ y i, i < j → F y (i + 1) = if ns (8 * d + i) = v then F (nI (8 * d + i)) i else F y i) {hn dp : Int32} {ak hd' br : Int64} : ∀ (k m : Nat) (y y4 : Int32), m ≤ j → m < k → y4 = nI m - 1 → fX1_find_42 k v y (nI d) y4 zs ns hn sm ak hd' br dp de = some (F y m) := by
  intro k
  induction k with
  | zero => intro m y y4 h1 h2; omega
  | succ k ih =>
    intro m y y4 h1 h2 h3
    rcases Nat.eq_zero_or_pos m with rfl | hm
    · rw [fX1_find_42, if_pos (by rw [h3]; decide), hF0]
    · obtain ⟨i, rfl⟩ : ∃ i, m = i + 1 := ⟨m - 1, by omega⟩
      rw [nI_pred] at h3
      subst h3
      rw [fX1_find_42, if_neg (nI_pos (by omega)), mt_ix1, if_neg (mt_g64 (by omega)), mt_cl (by omega), hFs y i (by omega)]
      by_cases hq : ns (8 * d + i) = v
      · rw [if_pos hq, if_pos hq]
        exact ih i _ _ (by omega) (by omega) (Int32.sub_eq_add_neg _ _).symm
      · rw [if_neg hq, if_neg hq]
        exact ih i _ _ (by omega) (by omega) (Int32.sub_eq_add_neg _ _).symm
theorem fd_hit {d j k0 : Nat} {v y : Int32} (hd : d < 8) (h8 : j ≤ 8) (h0 : k0 < j) (hv : ns (8 * d + k0) = v) (hm : ∀ i, i < k0 → ¬ ns (8 * d + i) = v) {hn dp : Int32} {ak hd' br : Int64} : fX1_find_42 9 v y (nI d) (nI j - 1) zs ns hn sm ak hd' br dp de = some (nI (8 * d + k0)) := by
  rw [fd_loop (j := j) hd h8 (fun y m => if k0 < m then nI (8 * d + k0) else y) (fun y => if_neg (by omega)) ?_ 9 j y _ (Nat.le_refl _) (by omega) rfl, if_pos h0]
  intro y i hi
  by_cases hq : ns (8 * d + i) = v
  · rw [if_pos hq]
    by_cases hk : k0 < i
    · rw [if_pos hk, if_pos (by omega)]
    · have : i = k0 := by
        by_cases hlt : i < k0
        · exact absurd hq (hm i hlt)
        · omega
      subst this
      rw [if_neg hk, if_pos (by omega)]
  · rw [if_neg hq]
    have : i ≠ k0 := fun z => hq (by rw [z]; exact hv)
    by_cases hk : k0 < i
    · rw [if_pos hk, if_pos (by omega)]
    · rw [if_neg hk, if_neg (by omega)]
theorem fd_miss {d j : Nat} {v y : Int32} (hd : d < 8) (h8 : j ≤ 8) (hm : ∀ i, i < j → ¬ ns (8 * d + i) = v) {hn dp : Int32} {ak hd' br : Int64} : fX1_find_42 9 v y (nI d) (nI j - 1) zs ns hn sm ak hd' br dp de = some y := by
  rw [fd_loop (j := j) hd h8 (fun y _ => y) (fun y => rfl) ?_ 9 j y _ (Nat.le_refl _) (by omega) rfl]
  intro y i hi
  rw [if_neg (hm i hi)]
set_option maxHeartbeats 4000000 in
theorem fi_loop (hR : RR zs ns0 ns1) (v : Int32) : ∀ (k i a h : Nat) (de : Int32), i ≤ 8 → 8 - i < k → ∃ (r : Int32) (a' h' : Nat) (de' : Int32), a' ≤ a + (8 - i) ∧ h' ≤ h + (8 - i) ∧ fX0_find_2 k v (nI i) zs ns0 (nI a) (nI h) (nI b) (nI t) de (nI w) sm = some (r, zs, ns0, nI a', nI h', nI b, nI t, de', nI w, sm) ∧ fX1_find_4 k v (-1) (nI i) zs ns1 (nI w) sm (lN a) (lN h) (lN b) (nI t) de = some (r, zs, ns1, nI w, sm, lN a', lN h', lN b, nI t, de') := by
  intro k
  induction k with
  | zero => intro i a h de h1 h2; omega
  | succ k ih =>
    intro i a h de h1 h2
    by_cases hi : i = 8
    · subst hi
      refine ⟨-1, a, h, de, by omega, by omega, ?_, ?_⟩
      · rw [fX0_find_2, if_pos (show (8 : Int32) ≤ nI 8 by decide)]
      · rw [fX1_find_4, if_pos (show (8 : Int32) ≤ nI 8 by decide)]
    · have hd : i < 8 := by omega
      have hn8 : ¬ (8 : Int32) ≤ nI i := nI_ge (b := 8) hd (by decide)
      obtain ⟨j, h8, e, hk⟩ := hR i hd
      rcases Nat.eq_zero_or_pos j with rfl | hj
      · obtain ⟨r, a', h', de', p1, p2, p3, p4⟩ := ih (i + 1) a h de (by omega) (by omega)
        refine ⟨r, a', h', de', by omega, by omega, ?_, ?_⟩
        · simp only [fX0_find_2, if_neg hn8, e0_isThereN hd e, Option.bind_some, if_neg i10, if_pos i00, nI_1, lN_1, lN_2, lN_t1, lN_t2, nI_pred, nI_p2, e1_end0, e1_end1, e1_end2, e1_end3, e0_r11, e0_r12, e0_r13, e0_r1, if_true, if_false]
          exact p3
        · simp only [fX1_find_4, if_neg hn8, mt_cl (show i < 64 by omega), if_neg (mt_h8 hd), e, if_pos (show nI 0 ≤ 0 by decide), Option.bind_some, if_neg i10, if_pos i00, nI_1, lN_1, lN_2, lN_t1, lN_t2, nI_pred, nI_p2, e1_end0, e1_end1, e1_end2, e1_end3, e0_r11, e0_r12, e0_r13, e0_r1, if_true, if_false]
          exact p4
      · have hjn : ¬ nI j ≤ 0 := nI_nle hj (by omega)
        by_cases hE : ∃ z, z < j ∧ ns0 (8 * i + z) = v
        · obtain ⟨k0, ⟨hk0, hv⟩, hmin⟩ := pk_least _ hE
          have hm0 : ∀ z, z < k0 → ¬ ns0 (8 * i + z) = v := fun z hz q => hmin z hz ⟨by omega, q⟩
          have hm1 : ∀ z, z < k0 → ¬ ns1 (8 * i + z) = v := fun z hz q => hm0 z hz ((hk z (by omega)).trans q)
          have hv1 : ns1 (8 * i + k0) = v := (hk k0 hk0).symm.trans hv
          obtain ⟨k, rfl⟩ : ∃ z, k = z + 1 := ⟨k - 1, by omega⟩
          have hpo : fX0_placeOf (nI i) v zs ns0 (nI (a + 1)) (nI (h + 1)) (nI b) (nI (t + 1)) (mx de (nI (t + 1))) (nI w) sm = some (nI k0) := po_hit hd e h8 hk0 hv hm0 9 0 (by omega) (by omega)
          have hlast : fX1_find_4 (k + 1) v (nI (8 * i + k0)) (nI (i + 1)) zs ns1 (nI w) sm (lN (a + 1)) (lN (h + 1)) (lN b) (nI t) (mx de (nI (t + 1))) = some (nI (8 * i + k0), zs, ns1, nI w, sm, lN (a + 1), lN (h + 1), lN b, nI t, mx de (nI (t + 1))) := by
            rw [fX1_find_4]
            by_cases h9 : (8 : Int32) ≤ nI (i + 1)
            · rw [if_pos h9]
            · rw [if_neg h9, if_neg (nI_m1 (by omega))]
          refine ⟨nI (8 * i + k0), a + 1, h + 1, mx de (nI (t + 1)), by omega, by omega, ?_, ?_⟩
          · rw [fX0_find_2]
            simp only [if_neg hn8, e0_isThereY hd e hj h8, e0_holdY hd e hj h8, hpo, e0_relY (nI_ok (show k0 < 2 ^ 31 by omega)), if_neg (nI_m1 (show k0 < 2 ^ 31 by omega)), mt_ix1, Option.bind_some, if_neg i10, if_pos i00, nI_1, lN_1, lN_2, lN_t1, lN_t2, nI_pred, nI_p2, e1_end0, e1_end1, e1_end2, e1_end3, e0_r11, e0_r12, e0_r13, e0_r1, if_true, if_false]
          · rw [fX1_find_4]
            simp only [if_neg hn8, if_pos (show (-1 : Int32) = -1 from rfl), mt_cl (show i < 64 by omega), if_neg (mt_h8 hd), e, if_neg hjn, e1_holdY hd e hj h8, fd_hit hd h8 hk0 hv1 hm1, hlast, Option.bind_some, if_neg i10, if_pos i00, nI_1, lN_1, lN_2, lN_t1, lN_t2, nI_pred, nI_p2, e1_end0, e1_end1, e1_end2, e1_end3, e0_r11, e0_r12, e0_r13, e0_r1, if_true, if_false]
        · have hm0 : ∀ z, z < j → ¬ ns0 (8 * i + z) = v := fun z hz q => hE ⟨z, hz, q⟩
          have hm1 : ∀ z, z < j → ¬ ns1 (8 * i + z) = v := fun z hz q => hm0 z hz ((hk z hz).trans q)
          have hpo : fX0_placeOf (nI i) v zs ns0 (nI (a + 1)) (nI (h + 1)) (nI b) (nI (t + 1)) (mx de (nI (t + 1))) (nI w) sm = some (-1) := po_miss hd e h8 hm0 9 0 (by omega) (by omega)
          obtain ⟨r, a', h', de', p1, p2, p3, p4⟩ := ih (i + 1) (a + 1) (h + 1) (mx de (nI (t + 1))) (by omega) (by omega)
          refine ⟨r, a', h', de', by omega, by omega, ?_, ?_⟩
          · rw [fX0_find_2]
            simp only [if_neg hn8, e0_isThereY hd e hj h8, e0_holdY hd e hj h8, hpo, e0_relY (show (-11) < (-1 : Int32) by decide), if_pos (show (-1 : Int32) = -1 from rfl), Option.bind_some, if_neg i10, if_pos i00, nI_1, lN_1, lN_2, lN_t1, lN_t2, nI_pred, nI_p2, e1_end0, e1_end1, e1_end2, e1_end3, e0_r11, e0_r12, e0_r13, e0_r1, if_true, if_false]
            exact p3
          · rw [fX1_find_4]
            simp only [if_neg hn8, if_pos (show (-1 : Int32) = -1 from rfl), mt_cl (show i < 64 by omega), if_neg (mt_h8 hd), e, if_neg hjn, e1_holdY hd e hj h8, fd_miss hd h8 hm1, Option.bind_some, if_neg i10, if_pos i00, nI_1, lN_1, lN_2, lN_t1, lN_t2, nI_pred, nI_p2, e1_end0, e1_end1, e1_end2, e1_end3, e0_r11, e0_r12, e0_r13, e0_r1, if_true, if_false]
            exact p4
set_option maxHeartbeats 4000000 in
theorem st_find (hR : RR zs ns0 ns1) (hw : w < 8) (ha : a ≤ B) (hh : h ≤ B) (hb : b ≤ B) (x1 : Int32) : PP t (B + 24) (fX0_find x1 zs ns0 (nI a) (nI h) (nI b) (nI t) de (nI w) sm) (fX1_find x1 zs ns1 (nI w) sm (lN a) (lN h) (lN b) (nI t) de) := by
  obtain ⟨r, a', h', de', p1, p2, p3, p4⟩ := fi_loop (b := b) (t := t) (w := w) (sm := sm) hR x1 9 0 a h de (by omega) (by omega)
  exact ⟨r, zs, ns0, ns1, a', h', b, w, de', sm, p3, p4, hR, by omega, by omega, by omega, hw⟩
theorem e1_mv {d : Nat} (h : d < 8) : nI (d + 1) - nI (d + 1) / 8 * 8 = nI ((d + 1) % 8) := pk_rem (a := d + 1) (d := 8) (by omega) (by decide) (by decide)
set_option maxHeartbeats 4000000 in
theorem ro_loop {n : Nat} (hn : n ≤ 20) (x2 : Int32) : ∀ (k i : Nat) (y : Int32) (w : Nat) (n0 n1 : Nat → Int32) (a h : Nat) (de : Int32), i ≤ n → n - i < k → w < 8 → RR zs n0 n1 → ∃ (r : Int32) (n0' n1' : Nat → Int32) (a' h' w' : Nat) (de' : Int32), RR zs n0' n1' ∧ a' ≤ a + (n - i) ∧ h' ≤ h + (n - i) ∧ w' < 8 ∧ fX0_rounds_19 k (nI n) x2 y (nI i) zs n0 (nI a) (nI h) (nI b) (nI t) de (nI w) sm = some (r, zs, n0', nI a', nI h', nI b, nI t, de', nI w', sm) ∧ fX1_rounds_21 k (nI n) x2 y 1 (nI i) zs n1 (nI w) sm (lN a) (lN h) (lN b) (nI t) de = some (r, zs, n1', nI w', sm, lN a', lN h', lN b, nI t, de') := by
  intro k
  induction k with
  | zero => intro i y w n0 n1 a h de h1 h2; omega
  | succ k ih =>
    intro i y w n0 n1 a h de h1 h2 hw hR
    by_cases hi : i = n
    · subst hi
      have hle : nI i ≤ nI i := nI_le (Nat.le_refl i) (by omega)
      refine ⟨y, n0, n1, a, h, w, de, hR, by omega, by omega, hw, ?_, ?_⟩
      · rw [fX0_rounds_19, if_pos hle]
      · rw [fX1_rounds_21, if_pos hle]
    · have hlt : ¬ nI n ≤ nI i := nI_ge (by omega) (by omega)
      obtain ⟨w2, ew2⟩ : ∃ z, z = (w + 1) % 8 := ⟨_, rfl⟩
      have hw2 : w2 < 8 := by omega
      obtain ⟨j, h8, e, hk⟩ := hR w2 hw2
      rcases Nat.eq_zero_or_pos j with rfl | hj
      · by_cases hx : x2 = 0
        · refine ⟨-11, n0, n1, a + 1, h, w2, de, hR, by omega, by omega, hw2, ?_, ?_⟩
          · rw [fX0_rounds_19]
            simp only [if_neg hlt, e0_move hw, ← ew2, e0_holdN hw2 e, if_pos hx, Option.bind_some, if_neg i10, if_pos i00, nI_1, lN_1, lN_2, lN_t1, lN_t2, nI_pred, nI_p2, e1_end0, e1_end1, e1_end2, e1_end3, e0_r11, e0_r12, e0_r13, e0_r1, if_true, if_false]
          · rw [fX1_rounds_21]
            simp only [if_neg hlt, e1_mv hw, ← ew2, e1_holdN hw2 e, if_pos hx, Option.bind_some, if_neg i10, if_pos i00, nI_1, lN_1, lN_2, lN_t1, lN_t2, nI_pred, nI_p2, e1_end0, e1_end1, e1_end2, e1_end3, e0_r11, e0_r12, e0_r13, e0_r1, if_true, if_false]
        · obtain ⟨r, n0', n1', a', h', w', de', p1, p2, p3, p4, p5, p6⟩ := ih (i + 1) y w2 n0 n1 (a + 1) h de (by omega) (by omega) hw2 hR
          refine ⟨r, n0', n1', a', h', w', de', p1, by omega, by omega, p4, ?_, ?_⟩
          · rw [fX0_rounds_19]
            simp only [if_neg hlt, e0_move hw, ← ew2, e0_holdN hw2 e, if_neg hx, Option.bind_some, if_neg i10, if_pos i00, nI_1, lN_1, lN_2, lN_t1, lN_t2, nI_pred, nI_p2, e1_end0, e1_end1, e1_end2, e1_end3, e0_r11, e0_r12, e0_r13, e0_r1, if_true, if_false]
            exact p5
          · rw [fX1_rounds_21]
            simp only [if_neg hlt, e1_mv hw, ← ew2, e1_holdN hw2 e, if_neg hx, Option.bind_some, if_neg i10, if_pos i00, nI_1, lN_1, lN_2, lN_t1, lN_t2, nI_pred, nI_p2, e1_end0, e1_end1, e1_end2, e1_end3, e0_r11, e0_r12, e0_r13, e0_r1, if_true, if_false]
            exact p6
      · have hq : n1 (8 * w2) = n0 (8 * w2) := hR.num (k := 0) hw2 e h8 hj
        have hRu := hR.upd (8 * w2) (n0 (8 * w2) + 1)
        obtain ⟨k, rfl⟩ : ∃ z, k = z + 1 := ⟨k - 1, by omega⟩
        by_cases hz : n0 (8 * w2) + 1 = 0
        · have hlast : fX1_rounds_21 (k + 1) (nI n) x2 (y + 1) 0 (nI (i + 1)) zs (upd n1 (8 * w2) 0) (nI w2) sm (lN (a + 1)) (lN (h + 1)) (lN b) (nI t) (mx de (nI (t + 1))) = some (y + 1, zs, upd n1 (8 * w2) 0, nI w2, sm, lN (a + 1), lN (h + 1), lN b, nI t, mx de (nI (t + 1))) := by
            rw [fX1_rounds_21]
            by_cases h9 : nI n ≤ nI (i + 1)
            · rw [if_pos h9]
            · rw [if_neg h9, if_pos i00]
          rw [hz] at hRu
          refine ⟨y + 1, upd n0 (8 * w2) 0, upd n1 (8 * w2) 0, a + 1, h + 1, w2, mx de (nI (t + 1)), hRu, by omega, by omega, hw2, ?_, ?_⟩
          · rw [fX0_rounds_19]
            simp only [if_neg hlt, e0_move hw, ← ew2, e0_holdY hw2 e hj h8, fX0_raiseAtHand, fX0_letGo, e0_at0 hw2, e0_put0 hw2, hz, Option.bind_some, if_neg i10, if_pos i00, nI_1, lN_1, lN_2, lN_t1, lN_t2, nI_pred, nI_p2, e1_end0, e1_end1, e1_end2, e1_end3, e0_r11, e0_r12, e0_r13, e0_r1, if_true, if_false]
          · rw [fX1_rounds_21]
            simp only [if_neg hlt, e1_mv hw, ← ew2, e1_holdY hw2 e hj h8, mt_ix2, mt_cl (show 8 * w2 < 64 by omega), if_neg (mt_h64 (show 8 * w2 < 64 by omega)), hq, upd_s, hz, hlast, Option.bind_some, if_neg i10, if_pos i00, nI_1, lN_1, lN_2, lN_t1, lN_t2, nI_pred, nI_p2, e1_end0, e1_end1, e1_end2, e1_end3, e0_r11, e0_r12, e0_r13, e0_r1, if_true, if_false]
        · by_cases hev : (n0 (8 * w2) + 1) - (n0 (8 * w2) + 1) / 2 * 2 = 0
          · obtain ⟨r, n0', n1', a', h', w', de', p1, p2, p3, p4, p5, p6⟩ := ih (i + 1) (y + 1) ((w2 + 1) % 8) _ _ (a + 1) (h + 1) (mx de (nI (t + 1))) (by omega) (by omega) (by omega) hRu
            refine ⟨r, n0', n1', a', h', w', de', p1, by omega, by omega, p4, ?_, ?_⟩
            · rw [fX0_rounds_19]
              simp only [if_neg hlt, e0_move hw, ← ew2, e0_holdY hw2 e hj h8, fX0_raiseAtHand, fX0_letGo, e0_at0 hw2, e0_put0 hw2, if_neg hz, if_pos hev, e0_move hw2, Option.bind_some, if_neg i10, if_pos i00, nI_1, lN_1, lN_2, lN_t1, lN_t2, nI_pred, nI_p2, e1_end0, e1_end1, e1_end2, e1_end3, e0_r11, e0_r12, e0_r13, e0_r1, if_true, if_false]
              exact p5
            · rw [fX1_rounds_21]
              simp only [if_neg hlt, e1_mv hw, ← ew2, e1_holdY hw2 e hj h8, mt_ix2, mt_cl (show 8 * w2 < 64 by omega), if_neg (mt_h64 (show 8 * w2 < 64 by omega)), hq, upd_s, if_neg hz, if_pos hev, e1_mv hw2, Option.bind_some, if_neg i10, if_pos i00, nI_1, lN_1, lN_2, lN_t1, lN_t2, nI_pred, nI_p2, e1_end0, e1_end1, e1_end2, e1_end3, e0_r11, e0_r12, e0_r13, e0_r1, if_true, if_false]
              exact p6
          · obtain ⟨r, n0', n1', a', h', w', de', p1, p2, p3, p4, p5, p6⟩ := ih (i + 1) (y + 1) w2 _ _ (a + 1) (h + 1) (mx de (nI (t + 1))) (by omega) (by omega) hw2 hRu
            refine ⟨r, n0', n1', a', h', w', de', p1, by omega, by omega, p4, ?_, ?_⟩
            · rw [fX0_rounds_19]
              simp only [if_neg hlt, e0_move hw, ← ew2, e0_holdY hw2 e hj h8, fX0_raiseAtHand, fX0_letGo, e0_at0 hw2, e0_put0 hw2, if_neg hz, if_neg hev, Option.bind_some, if_neg i10, if_pos i00, nI_1, lN_1, lN_2, lN_t1, lN_t2, nI_pred, nI_p2, e1_end0, e1_end1, e1_end2, e1_end3, e0_r11, e0_r12, e0_r13, e0_r1, if_true, if_false]
              exact p5
            · rw [fX1_rounds_21]
              simp only [if_neg hlt, e1_mv hw, ← ew2, e1_holdY hw2 e hj h8, mt_ix2, mt_cl (show 8 * w2 < 64 by omega), if_neg (mt_h64 (show 8 * w2 < 64 by omega)), hq, upd_s, if_neg hz, if_neg hev, Option.bind_some, if_neg i10, if_pos i00, nI_1, lN_1, lN_2, lN_t1, lN_t2, nI_pred, nI_p2, e1_end0, e1_end1, e1_end2, e1_end3, e0_r11, e0_r12, e0_r13, e0_r1, if_true, if_false]
              exact p6
set_option maxHeartbeats 4000000 in
theorem st_rounds (hR : RR zs ns0 ns1) (hw : w < 8) (ha : a ≤ B) (hh : h ≤ B) (hb : b ≤ B) (x1 x2 : Int32) : PP t (B + 24) (fX0_rounds x1 x2 zs ns0 (nI a) (nI h) (nI b) (nI t) de (nI w) sm) (fX1_rounds x1 x2 zs ns1 (nI w) sm (lN a) (lN h) (lN b) (nI t) de) := by
  by_cases hc1 : x1 < 1
  · simp only [fX0_rounds, fX1_rounds, if_pos hc1, e1_inN (lo := 1) (hi := 20) (Or.inl hc1), Option.bind_some, if_neg i10, if_pos i00, nI_1, lN_1, lN_2, lN_t1, lN_t2, nI_pred, nI_p2, e1_end0, e1_end1, e1_end2, e1_end3, e0_r11, e0_r12, e0_r13, e0_r1, if_true, if_false]
    exact ⟨-2, zs, ns0, ns1, a, h, b, w, de, sm, rfl, rfl, hR, by omega, by omega, by omega, hw⟩
  by_cases hc2 : x1 ≤ 20
  · have hc2' : ¬ 20 < x1 := Int32.not_lt.mpr hc2
    obtain ⟨n, hn1, hn2, rfl⟩ := in_range (N := 20) (M := 20) rfl hc1 hc2
    obtain ⟨r, n0', n1', a', h', w', de', p1, p2, p3, p4, p5, p6⟩ := ro_loop (b := b) (t := t) (sm := sm) hn2 x2 21 0 0 w ns0 ns1 a h de (by omega) (by omega) hw hR
    have p5' : fX0_rounds_19 21 (nI n) x2 0 0 zs ns0 (nI a) (nI h) (nI b) (nI t) de (nI w) sm = _ := p5
    have p6' : fX1_rounds_21 21 (nI n) x2 0 1 0 zs ns1 (nI w) sm (lN a) (lN h) (lN b) (nI t) de = _ := p6
    simp only [fX0_rounds, fX1_rounds, if_neg hc1, if_pos hc2, e1_inY hc1 hc2', p5', p6', Option.bind_some, if_neg i10, if_pos i00, nI_1, lN_1, lN_2, lN_t1, lN_t2, nI_pred, nI_p2, e1_end0, e1_end1, e1_end2, e1_end3, e0_r11, e0_r12, e0_r13, e0_r1, if_true, if_false]
    exact ⟨r, zs, n0', n1', a', h', b, w', de', sm, rfl, rfl, p1, by omega, by omega, by omega, p4⟩
  · simp only [fX0_rounds, fX1_rounds, if_neg hc1, if_neg hc2, e1_inN (lo := 1) (hi := 20) (Or.inr (Int32.not_le.mp hc2)), Option.bind_some, if_neg i10, if_pos i00, nI_1, lN_1, lN_2, lN_t1, lN_t2, nI_pred, nI_p2, e1_end0, e1_end1, e1_end2, e1_end3, e0_r11, e0_r12, e0_r13, e0_r1, if_true, if_false]
    exact ⟨-2, zs, ns0, ns1, a, h, b, w, de, sm, rfl, rfl, hR, by omega, by omega, by omega, hw⟩
set_option maxHeartbeats 4000000 in
theorem br_loop {d j : Nat} (hd : d < 8) (e : zs d = nI j) (h8 : j ≤ 8) (x2 : Int32) {ak hd0 br dp hn : Int32} {ak' hd' br' : Int64} : ∀ (k i : Nat) (n0 n1 : Nat → Int32) (sm : Int64), RR zs n0 n1 → i ≤ j → j - i < k → ∃ (r : Int32) (n0' n1' : Nat → Int32) (sm' : Int64), RR zs n0' n1' ∧ (-11) < r ∧ fX0_bringHeld_2 k (nI d) x2 (nI i) zs n0 ak hd0 br dp de hn sm = some (r, zs, n0', ak, hd0, br, dp, de, hn, sm') ∧ fX1_bring_26 k (nI d) x2 (nI i) 1 zs n1 hn sm ak' hd' br' dp de = some (r, zs, n1', hn, sm', ak', hd', br', dp - 1, de) := by
  intro k
  induction k with
  | zero => intro i n0 n1 sm hR h1 h2; omega
  | succ k ih =>
    intro i n0 n1 sm hR h1 h2
    by_cases hi : i = j
    · subst hi
      have hle : nI i ≤ nI i := nI_le (Nat.le_refl i) (by omega)
      refine ⟨nI i, n0, n1, sm, hR, nI_ok (by omega), ?_, ?_⟩
      · rw [fX0_bringHeld_2]
        simp only [mt_cl (show d < 64 by omega), if_neg (mt_h8 hd), e, if_pos hle]
      · rw [fX1_bring_26]
        simp only [mt_cl (show d < 64 by omega), if_neg (mt_h8 hd), e, if_pos hle, if_neg i10, e1_end0, Option.bind_some, Int32.zero_add]
    · have hlt : ¬ nI j ≤ nI i := nI_ge (by omega) (by omega)
      have hq := hR.num hd e h8 (show i < j by omega)
      have hid : upd n1 (8 * d + i) (n0 (8 * d + i)) = n1 := by rw [← hq]; exact upd_id
      obtain ⟨k, rfl⟩ : ∃ z, k = z + 1 := ⟨k - 1, by omega⟩
      by_cases hneg : n0 (8 * d + i) < 0
      · have hge : ¬ 0 ≤ n0 (8 * d + i) := Int32.not_le.mpr hneg
        have hlast : ∀ (n1 : Nat → Int32) (sm : Int64), fX1_bring_26 (k + 1) (nI d) x2 (nI (i + 1)) 0 zs n1 hn sm ak' hd' br' dp de = some (nI (i + 1), zs, n1, hn, sm, ak', hd', br', dp - 1, de) := by
          intro n1 sm
          rw [fX1_bring_26]
          simp only [if_pos i00, e1_end0, Option.bind_some, Int32.zero_add, if_true]
        by_cases hx : x2 = 0
        · refine ⟨nI (i + 1), upd n0 (8 * d + i) 0, upd n1 (8 * d + i) 0, sm + (n0 (8 * d + i)).toInt64, hR.upd _ _, nI_ok (by omega), ?_, ?_⟩
          · rw [fX0_bringHeld_2]
            simp only [mt_cl (show d < 64 by omega), if_neg (mt_h8 hd), e, if_neg hlt, e0_at hd (show i < 8 by omega), e0_put hd (show i < 8 by omega), if_pos hx, if_neg hge, Option.bind_some, if_neg i10, if_pos i00, nI_1, lN_1, lN_2, lN_t1, lN_t2, nI_pred, nI_p2, e1_end0, e1_end1, e1_end2, e1_end3, e0_r11, e0_r12, e0_r13, e0_r1, if_true, if_false]
          · rw [fX1_bring_26]
            simp only [mt_cl (show d < 64 by omega), if_neg (mt_h8 hd), e, if_neg hlt, mt_ix1, mt_cl (show 8 * d + i < 64 by omega), if_neg (mt_h64 (show 8 * d + i < 64 by omega)), hq, if_pos hneg, if_pos hx, hlast, Option.bind_some, if_neg i10, if_pos i00, nI_1, lN_1, lN_2, lN_t1, lN_t2, nI_pred, nI_p2, e1_end0, e1_end1, e1_end2, e1_end3, e0_r11, e0_r12, e0_r13, e0_r1, if_true, if_false]
        · refine ⟨nI (i + 1), n0, n1, sm + (n0 (8 * d + i)).toInt64, hR, nI_ok (by omega), ?_, ?_⟩
          · rw [fX0_bringHeld_2]
            simp only [mt_cl (show d < 64 by omega), if_neg (mt_h8 hd), e, if_neg hlt, e0_at hd (show i < 8 by omega), if_neg hx, if_neg hge, Option.bind_some, if_neg i10, if_pos i00, nI_1, lN_1, lN_2, lN_t1, lN_t2, nI_pred, nI_p2, e1_end0, e1_end1, e1_end2, e1_end3, e0_r11, e0_r12, e0_r13, e0_r1, if_true, if_false]
          · rw [fX1_bring_26]
            simp only [mt_cl (show d < 64 by omega), if_neg (mt_h8 hd), e, if_neg hlt, mt_ix1, mt_cl (show 8 * d + i < 64 by omega), if_neg (mt_h64 (show 8 * d + i < 64 by omega)), hq, hid, if_pos hneg, if_neg hx, hlast, Option.bind_some, if_neg i10, if_pos i00, nI_1, lN_1, lN_2, lN_t1, lN_t2, nI_pred, nI_p2, e1_end0, e1_end1, e1_end2, e1_end3, e0_r11, e0_r12, e0_r13, e0_r1, if_true, if_false]
      · have hge : 0 ≤ n0 (8 * d + i) := Int32.not_lt.mp hneg
        by_cases hx : x2 = 0
        · obtain ⟨r, n0', n1', sm', p1, p2, p3, p4⟩ := ih (i + 1) (upd n0 (8 * d + i) 0) (upd n1 (8 * d + i) 0) (sm + (n0 (8 * d + i)).toInt64) (hR.upd _ _) (by omega) (by omega)
          refine ⟨r, n0', n1', sm', p1, p2, ?_, ?_⟩
          · rw [fX0_bringHeld_2]
            simp only [mt_cl (show d < 64 by omega), if_neg (mt_h8 hd), e, if_neg hlt, e0_at hd (show i < 8 by omega), e0_put hd (show i < 8 by omega), if_pos hx, if_pos hge, Option.bind_some, if_neg i10, if_pos i00, nI_1, lN_1, lN_2, lN_t1, lN_t2, nI_pred, nI_p2, e1_end0, e1_end1, e1_end2, e1_end3, e0_r11, e0_r12, e0_r13, e0_r1, if_true, if_false]
            exact p3
          · rw [fX1_bring_26]
            simp only [mt_cl (show d < 64 by omega), if_neg (mt_h8 hd), e, if_neg hlt, mt_ix1, mt_cl (show 8 * d + i < 64 by omega), if_neg (mt_h64 (show 8 * d + i < 64 by omega)), hq, if_neg hneg, if_pos hx, Option.bind_some, if_neg i10, if_pos i00, nI_1, lN_1, lN_2, lN_t1, lN_t2, nI_pred, nI_p2, e1_end0, e1_end1, e1_end2, e1_end3, e0_r11, e0_r12, e0_r13, e0_r1, if_true, if_false]
            exact p4
        · obtain ⟨r, n0', n1', sm', p1, p2, p3, p4⟩ := ih (i + 1) n0 n1 (sm + (n0 (8 * d + i)).toInt64) hR (by omega) (by omega)
          refine ⟨r, n0', n1', sm', p1, p2, ?_, ?_⟩
          · rw [fX0_bringHeld_2]
            simp only [mt_cl (show d < 64 by omega), if_neg (mt_h8 hd), e, if_neg hlt, e0_at hd (show i < 8 by omega), if_neg hx, if_pos hge, Option.bind_some, if_neg i10, if_pos i00, nI_1, lN_1, lN_2, lN_t1, lN_t2, nI_pred, nI_p2, e1_end0, e1_end1, e1_end2, e1_end3, e0_r11, e0_r12, e0_r13, e0_r1, if_true, if_false]
            exact p3
          · rw [fX1_bring_26]
            simp only [mt_cl (show d < 64 by omega), if_neg (mt_h8 hd), e, if_neg hlt, mt_ix1, mt_cl (show 8 * d + i < 64 by omega), if_neg (mt_h64 (show 8 * d + i < 64 by omega)), hq, hid, if_neg hneg, if_neg hx, Option.bind_some, if_neg i10, if_pos i00, nI_1, lN_1, lN_2, lN_t1, lN_t2, nI_pred, nI_p2, e1_end0, e1_end1, e1_end2, e1_end3, e0_r11, e0_r12, e0_r13, e0_r1, if_true, if_false]
            exact p4
set_option maxHeartbeats 4000000 in
theorem st_bring (hR : RR zs ns0 ns1) (hw : w < 8) (ha : a ≤ B) (hh : h ≤ B) (hb : b ≤ B) (x1 x2 : Int32) : PP t (B + 24) (fX0_bring x1 x2 zs ns0 (nI a) (nI h) (nI b) (nI t) de (nI w) sm) (fX1_bring x1 x2 zs ns1 (nI w) sm (lN a) (lN h) (lN b) (nI t) de) := by
  rcases pk_ix x1 (n := 8) (by decide) with hx | hx | ⟨d, hd, rfl⟩
  · simp only [fX0_bring, fX1_bring, e0_isDeskN (Or.inl hx), e1_isDeskN (Or.inl hx), Option.bind_some, if_neg i10, if_pos i00, nI_1, lN_1, lN_2, lN_t1, lN_t2, nI_pred, nI_p2, e1_end0, e1_end1, e1_end2, e1_end3, e0_r11, e0_r12, e0_r13, e0_r1, if_true, if_false]
    exact ⟨-2, zs, ns0, ns1, a, h, b, w, de, sm, rfl, rfl, hR, by omega, by omega, by omega, hw⟩
  · simp only [fX0_bring, fX1_bring, e0_isDeskN (Or.inr hx), e1_isDeskN (Or.inr hx), Option.bind_some, if_neg i10, if_pos i00, nI_1, lN_1, lN_2, lN_t1, lN_t2, nI_pred, nI_p2, e1_end0, e1_end1, e1_end2, e1_end3, e0_r11, e0_r12, e0_r13, e0_r1, if_true, if_false]
    exact ⟨-2, zs, ns0, ns1, a, h, b, w, de, sm, rfl, rfl, hR, by omega, by omega, by omega, hw⟩
  obtain ⟨j, h8, e, -⟩ := hR d hd
  rcases Nat.eq_zero_or_pos j with rfl | hj
  · simp only [fX0_bring, fX1_bring, e0_isDesk hd, e1_isDesk hd, e0_holdN hd e, e1_holdN hd e, Option.bind_some, if_neg i10, if_pos i00, nI_1, lN_1, lN_2, lN_t1, lN_t2, nI_pred, nI_p2, e1_end0, e1_end1, e1_end2, e1_end3, e0_r11, e0_r12, e0_r13, e0_r1, if_true, if_false]
    exact ⟨-11, zs, ns0, ns1, a + 1, h, b, w, de, sm, rfl, rfl, hR, by omega, by omega, by omega, hw⟩
  obtain ⟨r, n0', n1', sm', p1, p2, p3, p4⟩ := br_loop (de := mx de (nI (t + 1))) hd e h8 x2 (ak := nI (a + 1)) (hd0 := nI (h + 1)) (br := nI b) (dp := nI (t + 1)) (hn := nI w) (ak' := lN (a + 1)) (hd' := lN (h + 1)) (br' := lN b) 9 0 ns0 ns1 sm hR (by omega) (by omega)
  have p3' : fX0_bringHeld (nI d) x2 zs ns0 (nI (a + 1)) (nI (h + 1)) (nI b) (nI (t + 1)) (mx de (nI (t + 1))) (nI w) sm = _ := p3
  have p4' : fX1_bring_26 9 (nI d) x2 0 1 zs ns1 (nI w) sm (lN (a + 1)) (lN (h + 1)) (lN b) (nI (t + 1)) (mx de (nI (t + 1))) = _ := p4
  simp only [fX0_bring, fX1_bring, e0_isDesk hd, e1_isDesk hd, e0_holdY hd e hj h8, e1_holdY hd e hj h8, p3', p4', e0_relY p2, Option.bind_some, if_neg i10, if_pos i00, nI_1, lN_1, lN_2, lN_t1, lN_t2, nI_pred, nI_p2, e1_end0, e1_end1, e1_end2, e1_end3, e0_r11, e0_r12, e0_r13, e0_r1, if_true, if_false]
  exact ⟨r, zs, n0', n1', a + 1, h + 1, b, w, _, sm', rfl, rfl, p1, by omega, by omega, by omega, hw⟩
end OPS4
