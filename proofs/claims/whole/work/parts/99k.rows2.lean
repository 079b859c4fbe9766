/-! THE PLAN's ROWS, hour by hour -/
section hpq
variable {N W best : Nat → Int32} {up : Int32} {many bm k n : Nat}
theorem i_m1 {x : Nat} (h : 1 ≤ x) (h2 : x ≤ 9) : nI x + (-1) = nI (x - 1) := by
  have hh : ∀ x, x ≤ 9 → 1 ≤ x → nI x + (-1) = nI (x - 1) := by decide
  exact hh x h2 h
theorem hp_bw {w : Nat} {b p : Int32} (hw : w < 6) : hp_b N up (nI w) b p = sp_min 9999 (b + p) - (up + N (612 + w)) := by
  unfold hp_b
  rw [if_neg (nI_pos (by omega)), vv_nI (by omega), Int32.sub_eq_add_neg, Int32.sub_eq_add_neg, Int32.sub_eq_add_neg, Int32.neg_add, Int32.sub_eq_add_neg, Int32.add_assoc]
theorem hp_bn {b p : Int32} : hp_b N up (-1) b p = sp_min 9999 (b + p) - (up + 0) := by
  unfold hp_b
  rw [if_pos (by decide), Int32.sub_zero, Int32.add_zero]
theorem hp_stay (hk : k ≤ 6) (hn : n ≤ 24) (hY : mo_Y N k) (hP : PV N k up n bm best) {i : Nat} (hi : i < bm) {w x : Nat} (hw : w < k) (ew : best i = nI w) (hx1 : 1 ≤ x) (hx9 : x ≤ 9) (ex : N (606 + w) = nI x) (h0 : (hp_r N W up many bm best (vt N best i)).1 = (vbk N up best i, vpn N best i, i, nI x)) (hpos : 0 ≤ sk_pd (vbk N up best i) (vpn N best i) (up + N (612 + w)) x) : ∀ j, j < x → (hp_r N W up many bm best (vt N best i + j)).1 = (sk_pd (vbk N up best i) (vpn N best i) (up + N (612 + w)) j, vpn N best i, i, nI (x - j)) := by
  intro j
  induction j with
  | zero => intro _; exact h0
  | succ j ih =>
    intro hj
    have e := ih (by omega)
    show hp_n N up bm best (hp_r N W up many bm best (vt N best i + j)).1 = _
    rw [e]
    have ehw : hp_w bm best i = nI w := by unfold hp_w; rw [if_pos hi, ew]
    unfold hp_n
    show (if hp_w bm best i < 0 ∨ ¬ nI (x - j) + (-1) = 0 then (hp_b N up (hp_w bm best i) _ (vpn N best i), vpn N best i, i, nI (x - j) + (-1)) else _) = _
    rw [ehw, i_m1 (by omega) (by omega), if_pos (Or.inr (fun q => by have := (nI_eq (a := x - j - 1) (b := 0) (by omega) (by omega)).mp q; omega)), hp_bw (by omega), ← pd_s (pd_pos hpos (by omega)), show x - j - 1 = x - (j + 1) by omega]
theorem hp_at (hk : k ≤ 6) (hn : n ≤ 24) (hY : mo_Y N k) (hP : PV N k up n bm best) : ∀ i, i ≤ bm → (hp_r N W up many bm best (vt N best i)).1 = (vbk N up best i, vpn N best i, i, if i < bm then N (606 + vv (best i)) else 0) := by
  intro i
  induction i with
  | zero => intro _; rfl
  | succ i ih =>
    intro hi
    have h0 := ih (by omega)
    obtain ⟨w, hw, ew⟩ := hP.1 i (by omega)
    obtain ⟨x, hx1, hx9, ex⟩ := hY w hw
    rw [if_pos (by omega), ew, vv_nI (by omega), ex] at h0
    have hb := hP.2.1 i (by omega)
    have evb : vbk N up best (i + 1) = sk_en (vbk N up best i) (vpn N best i) (up + N (612 + w)) (nI x) := by
      show sk_en _ _ (up + N (612 + vv (best i))) (N (606 + vv (best i))) = _
      rw [ew, vv_nI (by omega), ex]
    rw [evb] at hb
    have hp := en_p (by omega) hb
    have hs := hp_stay (W := W) (many := many) hk hn hY hP (show i < bm by omega) hw ew hx1 hx9 ex h0 hp.2 (x - 1) (by omega)
    have et : vt N best (i + 1) = vt N best i + (x - 1) + 1 := by
      show vt N best i + vv (N (606 + vv (best i))) = _
      rw [ew, vv_nI (by omega), ex, vv_nI (by omega)]; omega
    rw [et]
    show hp_n N up bm best (hp_r N W up many bm best (vt N best i + (x - 1))).1 = _
    rw [hs, show x - (x - 1) = 1 by omega]
    have ehw : hp_w bm best i = nI w := by unfold hp_w; rw [if_pos (by omega), ew]
    unfold hp_n
    show (if hp_w bm best i < 0 ∨ ¬ nI 1 + (-1) = 0 then _ else (hp_b N up (hp_w bm best i) _ (vpn N best i), vpn N best i + N (618 + vv (hp_w bm best i)), i + 1, if i + 1 < bm then N (606 + vv (best (i + 1))) else 0)) = _
    rw [ehw, if_neg (by intro q; rcases q with q | q; exact nI_pos (by omega) q; exact q (by decide)), hp_bw (by omega), vv_nI (by omega), evb, hp.1]
    have e2 := pd_s (b := vbk N up best i) (p := vpn N best i) (c := up + N (612 + w)) (j := x - 1) (by rw [show x - 1 + 1 = x by omega]; exact hp.2)
    rw [show x - 1 + 1 = x by omega] at e2
    rw [← e2]
    show (_, vpn N best i + N (618 + w), _) = (_, vpn N best i + N (618 + vv (best i)), _)
    rw [ew, vv_nI (by omega)]
theorem hp_rest (hk : k ≤ 6) (hn : n ≤ 24) (hY : mo_Y N k) (hP : PV N k up n bm best) {x : Nat} (hpos : 0 ≤ sk_pd (vbk N up best bm) (vpn N best bm) (up + 0) x) : ∀ j, j ≤ x → ∃ z, (hp_r N W up many bm best (vt N best bm + j)).1 = (sk_pd (vbk N up best bm) (vpn N best bm) (up + 0) j, vpn N best bm, bm, z) := by
  intro j
  induction j with
  | zero => intro _; exact ⟨_, hp_at hk hn hY hP bm (Nat.le_refl _)⟩
  | succ j ih =>
    intro hj
    obtain ⟨z, e⟩ := ih (by omega)
    refine ⟨z + (-1), ?_⟩
    show hp_n N up bm best (hp_r N W up many bm best (vt N best bm + j)).1 = _
    rw [e]
    have ehw : hp_w bm best bm = -1 := by unfold hp_w; rw [if_neg (by omega)]
    unfold hp_n
    show (if hp_w bm best bm < 0 ∨ ¬ z + (-1) = 0 then (hp_b N up (hp_w bm best bm) _ (vpn N best bm), vpn N best bm, bm, z + (-1)) else _) = _
    rw [ehw, if_pos (Or.inl (by decide)), hp_bn, ← pd_s (pd_pos hpos hj)]
/-- the values that are due -/
def Dp (N W best : Nat → Int32) (up : Int32) (many bm : Nat) (q : Nat) : Int32 := if q % 2 = 0 then hp_w bm best (hp_r N W up many bm best (q / 2)).1.2.2.1 else hp_b N up (hp_w bm best (hp_r N W up many bm best (q / 2)).1.2.2.1) (hp_r N W up many bm best (q / 2)).1.1 (hp_r N W up many bm best (q / 2)).1.2.1
theorem hp_L : ∀ t, (hp_r N W up many bm best t).2 = hdL W many (Dp N W best up many bm) (2 * t) := by
  intro t
  induction t with
  | zero => rfl
  | succ t ih =>
    show hd_f W many (hd_f W many (hp_r N W up many bm best t).2 _) _ = hd_f W many (hd_f W many (hdL W many (Dp N W best up many bm) (2 * t)) (Dp N W best up many bm (2 * t))) (Dp N W best up many bm (2 * t + 1))
    rw [ih]
    have e1 : Dp N W best up many bm (2 * t) = hp_w bm best (hp_r N W up many bm best t).1.2.2.1 := by
      unfold Dp; rw [if_pos (by omega), show 2 * t / 2 = t by omega]
    have e2 : Dp N W best up many bm (2 * t + 1) = hp_b N up (hp_w bm best (hp_r N W up many bm best t).1.2.2.1) (hp_r N W up many bm best t).1.1 (hp_r N W up many bm best t).1.2.1 := by
      unfold Dp; rw [if_neg (by omega), show (2 * t + 1) / 2 = t by omega]
    rw [e1, e2]
theorem Dp_0 {t : Nat} {b p z : Int32} {i : Nat} (h : (hp_r N W up many bm best t).1 = (b, p, i, z)) : Dp N W best up many bm (2 * t) = hp_w bm best i ∧ Dp N W best up many bm (2 * t + 1) = hp_b N up (hp_w bm best i) b p := by
  unfold Dp
  rw [if_pos (by omega), if_neg (by omega), show 2 * t / 2 = t by omega, show (2 * t + 1) / 2 = t by omega, h]
  exact ⟨rfl, rfl⟩
end hpq
