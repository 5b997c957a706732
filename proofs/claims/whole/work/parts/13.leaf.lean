/-! what the small methods answer, at a desk d below 8 and a place k -/
theorem i_lt {x y : Int32} : x < y ↔ x.toInt < y.toInt := Int32.lt_iff_toInt_lt
theorem i_le {x y : Int32} : x ≤ y ↔ x.toInt ≤ y.toInt := Int32.le_iff_toInt_le
theorem mt_ix0 (d k : Nat) : nI d * 8 + nI k = nI (8 * d + k) := by
  show nI d * nI 8 + nI k = _
  rw [pk_mul, nI_add, Nat.mul_comm]
theorem mt_ix1 (d k : Nat) : 8 * nI d + nI k = nI (8 * d + k) := by
  show nI 8 * nI d + nI k = _
  rw [pk_mul, nI_add]
theorem mt_ix2 (d : Nat) : 8 * nI d = nI (8 * d) := by
  show nI 8 * nI d = _
  rw [pk_mul]
theorem mt_g8 {d : Nat} (h : d < 8) : ¬ (nI d < 0 ∨ 8 ≤ (nI d).toNatClampNeg) := nI_in h (by decide)
theorem mt_g64 {q : Nat} (h : q < 64) : ¬ (nI q < 0 ∨ 64 ≤ (nI q).toNatClampNeg) := nI_in h (by decide)
theorem mt_cl {q : Nat} (h : q < 64) : (nI q).toNatClampNeg = q := nI_clamp (by omega)
theorem i10 : ¬ (1 : Int32) = 0 := by decide
theorem i00 : (0 : Int32) = 0 := rfl
theorem upd_s {f : Nat → Int32} {k : Nat} {x : Int32} : upd f k x k = x := by simp [upd]
theorem upd_n {f : Nat → Int32} {k j : Nat} {x : Int32} (h : j ≠ k) : upd f k x j = f j := by simp [upd, h]
theorem upd_id {f : Nat → Int32} {k : Nat} : upd f k (f k) = f := by
  funext j
  by_cases h : j = k
  · subst h; exact upd_s
  · exact upd_n h
def mx (de dp : Int32) : Int32 := if de < dp then dp else de
section LEAF0
variable {zs ns : Nat → Int32} {ak hd br dp de hn : Int32} {sm : Int64} {d k j : Nat} {x v : Int32}
theorem e0_isDesk (h : d < 8) : fX0_isDesk (nI d) = some 1 := by
  unfold fX0_isDesk
  rw [if_neg (nI_pos (by omega)), if_neg (show ¬ (8 : Int32) ≤ nI d from nI_ge (b := 8) h (by decide))]
theorem e0_isDeskN (h : x < 0 ∨ nI 8 ≤ x) : fX0_isDesk x = some 0 := by
  unfold fX0_isDesk
  by_cases hx : x < 0
  · rw [if_pos hx]
  · rw [if_neg hx, if_pos (show (8 : Int32) ≤ x from h.resolve_left hx)]
theorem e0_isThereY (h : d < 8) (e : zs d = nI j) (h0 : 0 < j) (h8 : j ≤ 8) : fX0_isThere (nI d) zs ns ak hd br dp de hn sm = some 1 := by
  unfold fX0_isThere
  rw [e0_isDesk h, Option.bind_some, if_neg i10, if_neg (mt_g8 h), mt_cl (by omega), e, if_neg (nI_nle h0 (by omega))]
theorem e0_isThereN (h : d < 8) (e : zs d = nI 0) : fX0_isThere (nI d) zs ns ak hd br dp de hn sm = some 0 := by
  unfold fX0_isThere
  rw [e0_isDesk h, Option.bind_some, if_neg i10, if_neg (mt_g8 h), mt_cl (by omega), e, if_pos (by decide)]
theorem e0_holdY (h : d < 8) (e : zs d = nI j) (h0 : 0 < j) (h8 : j ≤ 8) : fX0_hold (nI d) zs ns ak hd br dp de hn sm = some (1, zs, ns, ak + 1, hd + 1, br, dp + 1, mx de (dp + 1), hn, sm) := by
  unfold fX0_hold
  rw [e0_isThereY h e h0 h8, Option.bind_some, if_neg i10]
  rfl
theorem e0_holdN (h : d < 8) (e : zs d = nI 0) : fX0_hold (nI d) zs ns ak hd br dp de hn sm = some (0, zs, ns, ak + 1, hd, br, dp, de, hn, sm) := by
  unfold fX0_hold
  rw [e0_isThereN h e, Option.bind_some, if_pos i00]
theorem e0_relY (h : (-11) < x) : fX0_release x zs ns ak hd br dp de hn sm = some (x, zs, ns, ak, hd, br, dp - 1, de, hn, sm) := by
  unfold fX0_release fX0_letGo fX0_isFailure
  rw [Option.bind_some, if_pos h]
  rfl
theorem e0_relN (h : ¬ (-11) < x) : fX0_release x zs ns ak hd br dp de hn sm = some (x, zs, ns, ak, hd, br + 1, dp - 1, de, hn, sm) := by
  unfold fX0_release fX0_letGo fX0_isFailure
  rw [Option.bind_some, if_neg h]
  rfl
theorem nI_ok (h : k < 2 ^ 31) : (-11) < nI k := by
  rw [i_lt, nI_toInt h]
  show (-11 : Int) < _
  omega
theorem e0_hpY (h : d < 8) (e : zs d = nI j) (hk : k < j) (h8 : j ≤ 8) : fX0_hasPlace (nI d) (nI k) zs ns ak hd br dp de hn sm = some 1 := by
  unfold fX0_hasPlace
  rw [e0_isDesk h, Option.bind_some, if_neg i10, if_neg (nI_pos (by omega)), if_neg (mt_g8 h), mt_cl (by omega), e, if_neg (nI_ge hk (by omega))]
theorem e0_hpN (h : d < 8) (e : zs d = nI j) (hx : x < 0 ∨ nI j ≤ x) : fX0_hasPlace (nI d) x zs ns ak hd br dp de hn sm = some 0 := by
  unfold fX0_hasPlace
  rw [e0_isDesk h, Option.bind_some, if_neg i10]
  by_cases hx0 : x < 0
  · rw [if_pos hx0]
  · rw [if_neg hx0, if_neg (mt_g8 h), mt_cl (by omega), e, if_pos (hx.resolve_left hx0)]
theorem e0_hpD (hx : x < 0 ∨ nI 8 ≤ x) : fX0_hasPlace x v zs ns ak hd br dp de hn sm = some 0 := by
  unfold fX0_hasPlace
  rw [e0_isDeskN hx, Option.bind_some, if_pos i00]
theorem e0_at (h : d < 8) (hk : k < 8) : fX0_at (nI d) (nI k) zs ns ak hd br dp de hn sm = some (ns (8 * d + k)) := by
  unfold fX0_at
  rw [mt_ix0, if_neg (mt_g64 (by omega)), mt_cl (by omega)]
theorem e0_put (h : d < 8) (hk : k < 8) : fX0_put (nI d) (nI k) v zs ns ak hd br dp de hn sm = some (zs, upd ns (8 * d + k) v, ak, hd, br, dp, de, hn, sm) := by
  unfold fX0_put
  rw [mt_ix0, if_neg (mt_g64 (by omega)), mt_cl (by omega)]
theorem e0_move (h : d < 8) : fX0_moveHand zs ns ak hd br dp de (nI d) sm = some (zs, ns, ak, hd, br, dp, de, nI ((d + 1) % 8), sm) := by
  unfold fX0_moveHand
  rw [nI_1]
  by_cases h7 : d = 7
  · subst h7
    rw [if_pos (by decide)]
    rfl
  · rw [if_neg (show ¬ (8 : Int32) ≤ nI (d + 1) from nI_ge (b := 8) (by omega) (by decide)), Nat.mod_eq_of_lt (by omega)]
end LEAF0
section LEAF1
variable {zs ns : Nat → Int32} {hn dp de : Int32} {sm ak hd br : Int64} {d k j : Nat} {x y v lo hi : Int32}
theorem e1_inY (h1 : ¬ x < lo) (h2 : ¬ hi < x) : fX1_in x lo hi = some 1 := by
  unfold fX1_in
  rw [if_neg h1, if_neg h2]
theorem e1_inN (h : x < lo ∨ hi < x) : fX1_in x lo hi = some 0 := by
  unfold fX1_in
  by_cases hx : x < lo
  · rw [if_pos hx]
  · rw [if_neg hx, if_pos (h.resolve_left hx)]
theorem e1_isDesk (h : d < 8) : fX1_isDesk (nI d) = some 1 := by
  unfold fX1_isDesk
  rw [e1_inY (nI_pos (by omega)) (show ¬ (7 : Int32) < nI d from nI_nlt (a := 7) (by omega) (by decide))]
  rfl
theorem e1_isDeskN (h : x < 0 ∨ nI 8 ≤ x) : fX1_isDesk x = some 0 := by
  unfold fX1_isDesk
  rw [e1_inN]
  · rfl
  · rcases h with h | h
    · exact Or.inl h
    · refine Or.inr ?_
      rw [i_le, nI_toInt (by decide)] at h
      rw [i_lt]
      show (7 : Int) < _
      omega
theorem mx_eq : (if (dp + 1) ≤ de then some (1, zs, ns, hn, sm, ak + 1, hd + 1, br, dp + 1, de) else some (1, zs, ns, hn, sm, ak + 1, hd + 1, br, dp + 1, dp + 1) : Option (Int32 × S1)) = some (1, zs, ns, hn, sm, ak + 1, hd + 1, br, dp + 1, mx de (dp + 1)) := by
  unfold mx
  by_cases h : (dp + 1) ≤ de
  · rw [if_pos h, if_neg (Int32.not_lt.mpr h)]
  · rw [if_neg h, if_pos (Int32.not_le.mp h)]
theorem e1_holdY (h : d < 8) (e : zs d = nI j) (h0 : 0 < j) (h8 : j ≤ 8) : fX1_holds (nI d) zs ns hn sm ak hd br dp de = some (1, zs, ns, hn, sm, ak + 1, hd + 1, br, dp + 1, mx de (dp + 1)) := by
  unfold fX1_holds
  rw [if_neg (mt_g8 h), mt_cl (by omega), e, if_neg (nI_ne0 h0 (by omega)), mx_eq]
theorem e1_holdN (h : d < 8) (e : zs d = nI 0) : fX1_holds (nI d) zs ns hn sm ak hd br dp de = some (0, zs, ns, hn, sm, ak + 1, hd, br, dp, de) := by
  unfold fX1_holds
  rw [if_neg (mt_g8 h), mt_cl (by omega), e, if_pos (by decide)]
theorem e1_end0 : fX1_ends x 0 zs ns hn sm ak hd br dp de = some (0, zs, ns, hn, sm, ak, hd, br, dp - x, de) := by
  unfold fX1_ends
  rw [if_pos (by decide), if_pos (by decide), Int64.add_zero]
theorem e1_endF (h : ¬ y ≤ 0) : fX1_ends x y zs ns hn sm ak hd br dp de = some ((-10) - y, zs, ns, hn, sm, ak, hd, br + x.toInt64, dp - x, de) := by
  unfold fX1_ends
  rw [if_neg h, if_neg h]
theorem e1_ipY (h : d < 8) (e : zs d = nI j) (hk : k < j) (h8 : j ≤ 8) : fX1_isPlace (nI d) (nI k) zs ns hn sm ak hd br dp de = some 1 := by
  unfold fX1_isPlace
  obtain ⟨i, rfl⟩ : ∃ i, j = i + 1 := ⟨j - 1, by omega⟩
  rw [if_neg (mt_g8 h), mt_cl (by omega), e, nI_pred, e1_inY (nI_pos (by omega)) (nI_nlt (by omega) (by omega))]
  rfl
theorem e1_ipN (h : d < 8) (e : zs d = nI j) (h0 : 0 < j) (h8 : j ≤ 8) (hx : x < 0 ∨ nI j ≤ x) : fX1_isPlace (nI d) x zs ns hn sm ak hd br dp de = some 0 := by
  unfold fX1_isPlace
  obtain ⟨i, rfl⟩ : ∃ i, j = i + 1 := ⟨j - 1, by omega⟩
  rw [if_neg (mt_g8 h), mt_cl (by omega), e, nI_pred, e1_inN]
  · rfl
  · rcases hx with hx | hx
    · exact Or.inl hx
    · refine Or.inr ?_
      rw [i_le, nI_toInt (by omega)] at hx
      rw [i_lt, nI_toInt (by omega)]
      omega
theorem e1_ipZ (h : d < 8) (e : zs d = nI 0) : fX1_isPlace (nI d) x zs ns hn sm ak hd br dp de = some 0 := by
  unfold fX1_isPlace
  rw [if_neg (mt_g8 h), mt_cl (by omega), e, e1_inN]
  · rfl
  · by_cases hx : x < 0
    · exact Or.inl hx
    · refine Or.inr ?_
      rw [i_lt] at hx ⊢
      show (-1 : Int) < _
      have : (0 : Int32).toInt = 0 := rfl
      omega
theorem e1_quo (h : ¬ y = 0) : fX1_quotient x y = some (x / y) := by
  unfold fX1_quotient
  rw [if_neg, Option.some.injEq]
  · rw [← Int32.toInt_inj, Int64.toInt_toInt32, Int64.toInt_div, Int32.toInt_div, Int32.toInt_toInt64, Int32.toInt_toInt64]
    exact Int.bmod_bmod_of_dvd (by decide)
  · intro h2
    apply h
    rw [← Int32.toInt_inj, ← Int32.toInt_toInt64, h2]
    rfl
theorem e1_move (h : d < 8) : (nI d + 1) - (nI d + 1) / 8 * 8 = nI ((d + 1) % 8) := by
  rw [nI_1]
  exact pk_rem (a := d + 1) (d := 8) (by omega) (by decide) (by decide)
end LEAF1
/-- the two states agree: sizes are one, numbers where there are places -/
def RR (zs ns0 ns1 : Nat → Int32) : Prop := ∀ d, d < 8 → ∃ j, j ≤ 8 ∧ zs d = nI j ∧ ∀ k, k < j → ns0 (8 * d + k) = ns1 (8 * d + k)
theorem RR.upd {zs ns0 ns1 : Nat → Int32} (h : RR zs ns0 ns1) (q : Nat) (v : Int32) : RR zs (upd ns0 q v) (upd ns1 q v) := by
  intro d hd
  obtain ⟨j, h1, h2, h3⟩ := h d hd
  refine ⟨j, h1, h2, fun k hk => ?_⟩
  by_cases hq : 8 * d + k = q
  · subst hq; rw [upd_s, upd_s]
  · rw [upd_n hq, upd_n hq]; exact h3 k hk
/-- both answer the same, and agree again; the depth is t, the counts are at most B -/
def PP (t B : Nat) (o0 : Option (Int32 × S0)) (o1 : Option (Int32 × S1)) : Prop := ∃ (r : Int32) (zs ns0 ns1 : Nat → Int32) (a h b w : Nat) (de : Int32) (sm : Int64), o0 = some (r, zs, ns0, nI a, nI h, nI b, nI t, de, nI w, sm) ∧ o1 = some (r, zs, ns1, nI w, sm, lN a, lN h, lN b, nI t, de) ∧ RR zs ns0 ns1 ∧ a ≤ B ∧ h ≤ B ∧ b ≤ B ∧ w < 8
