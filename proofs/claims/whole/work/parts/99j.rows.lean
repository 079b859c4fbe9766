/-! THE PLAN that is found can be lived through -/
def vt (N : Nat → Int32) (r : Nat → Int32) : Nat → Nat
  | 0 => 0
  | i + 1 => vt N r i + vv (N (606 + vv (r i)))
def vpn (N : Nat → Int32) (r : Nat → Int32) : Nat → Int32
  | 0 => N 5
  | i + 1 => vpn N r i + N (618 + vv (r i))
def vbk (N : Nat → Int32) (up : Int32) (r : Nat → Int32) : Nat → Int32
  | 0 => N 4
  | i + 1 => sk_en (vbk N up r i) (vpn N r i) (up + N (612 + vv (r i))) (N (606 + vv (r i)))
theorem v_c {N : Nat → Int32} {up : Int32} {r r' : Nat → Int32} : ∀ i, (∀ j, j < i → r j = r' j) → vt N r i = vt N r' i ∧ vpn N r i = vpn N r' i ∧ vbk N up r i = vbk N up r' i := by
  intro i
  induction i with
  | zero => intro _; exact ⟨rfl, rfl, rfl⟩
  | succ i ih =>
    intro h
    obtain ⟨h1, h2, h3⟩ := ih (fun j hj => h j (by omega))
    unfold vt vpn vbk
    rw [h1, h2, h3, h i (by omega)]
    exact ⟨rfl, rfl, rfl⟩
/-- hours of WORKS are in their bounds -/
def mo_Y (N : Nat → Int32) (k : Nat) : Prop := ∀ i, i < k → ∃ x, 1 ≤ x ∧ x ≤ 9 ∧ N (606 + i) = nI x
def PV (N : Nat → Int32) (k : Nat) (up : Int32) (n m : Nat) (r : Nat → Int32) : Prop := (∀ i, i < m → ∃ w, w < k ∧ r i = nI w) ∧ (∀ i, i < m → 0 ≤ vbk N up r (i + 1)) ∧ vt N r m ≤ n
def gd (N : Nat → Int32) (k : Nat) (up : Int32) (n : Nat) (s : sk_S) : Prop := 0 ≤ s.2.2.1 → PV N k up n s.2.2.2.1 s.2.2.2.2 ∧ s.2.2.1 = sk_en (vbk N up s.2.2.2.2 s.2.2.2.1) (vpn N s.2.2.2.2 s.2.2.2.1) (up + 0) (nI n - nI (vt N s.2.2.2.2 s.2.2.2.1))
theorem gd_1 {N : Nat → Int32} {k : Nat} {up : Int32} {n x y : Nat} {u v : Bool} {z : Int32 × Nat × (Nat → Int32)} (h : gd N k up n (x, u, z)) : gd N k up n (y, v, z) := h
theorem gd_we {N : Nat → Int32} {k : Nat} {up : Int32} {n m : Nat} {r : Nat → Int32} {t b p : Int32} {s : sk_S} (hP : PV N k up n m r) (ht : t = nI (vt N r m)) (hb : b = vbk N up r m) (hp : p = vpn N r m) (h : gd N k up n s) : gd N k up n (sk_we up (nI n) m r t b p s) := by
  unfold sk_we
  by_cases c : sk_en b p (up + 0) (nI n - t) ≤ s.2.2.1
  · rw [if_pos c]; exact h
  · rw [if_neg c]; intro _; exact ⟨hP, by subst ht hb hp; rfl⟩
theorem gd_l {N : Nat → Int32} {k : Nat} {up T : Int32} {n : Nat} {D : Nat} {t b p : Int32} {rec : Nat → sk_S → sk_S} {s : sk_S} (hs : gd N k up n s) : ∀ j, (∀ w s, w < j → sk_ca N T D w t → ¬ sk_en b p (up + N (612 + w)) (N (606 + w)) < 0 → gd N k up n s → gd N k up n (rec w s)) → gd N k up n (sk_l (sk_st N up T D t b p rec) j s) := by
  intro j
  induction j with
  | zero => intro _; exact hs
  | succ j ih =>
    intro hr
    have h1 := ih (fun w s hw => hr w s (by omega))
    show gd N k up n (sk_st N up T D t b p rec j (sk_l (sk_st N up T D t b p rec) j s))
    generalize sk_l (sk_st N up T D t b p rec) j s = z at h1
    obtain ⟨z1, z2, z3⟩ := z
    unfold sk_st
    by_cases c1 : (z1, z2, z3).2.1 = true
    · rw [if_pos c1]; exact h1
    · rw [if_neg c1]
      by_cases c2 : sk_ca N T D j t
      · rw [if_pos c2]
        by_cases c3 : (z1, z2, z3).1 = 0
        · rw [if_pos c3]; exact h1
        · rw [if_neg c3]
          by_cases c4 : sk_en b p (up + N (612 + j)) (N (606 + j)) < 0
          · rw [if_pos c4]; exact h1
          · rw [if_neg c4]; exact hr j _ (by omega) c2 c4 h1
      · rw [if_neg c2]; exact h1
theorem gd_sk {N : Nat → Int32} {k : Nat} {up : Int32} {n : Nat} (hk : k ≤ 6) (hn : n ≤ 24) (hY : mo_Y N k) : ∀ (f m : Nat) (r : Nat → Int32) (D : Nat) (t b p : Int32) (s : sk_S), PV N k up n m r → t = nI (vt N r m) → b = vbk N up r m → p = vpn N r m → gd N k up n s → gd N k up n (sk N up (nI n) k f m r D t b p s) := by
  intro f
  induction f with
  | zero => intro m r D t b p s hP ht hb hp hs; exact gd_we hP ht hb hp hs
  | succ f ih =>
    intro m r D t b p s hP ht hb hp hs
    refine gd_l (gd_we hP ht hb hp hs) k (fun w s2 hw hca hen hs2 => ?_)
    obtain ⟨x, hx1, hx9, ex⟩ := hY w hw
    obtain ⟨e1, e2, e3⟩ := v_c (N := N) (up := up) (r := upd r m (nI w)) (r' := r) m (fun j hj => by unfold upd; rw [if_neg (by omega)])
    have em : upd r m (nI w) m = nI w := by unfold upd; rw [if_pos rfl]
    have et : vt N (upd r m (nI w)) (m + 1) = vt N r m + x := by show vt N (upd r m (nI w)) m + vv (N (606 + vv (upd r m (nI w) m))) = _; rw [e1, em, vv_nI (by omega), ex, vv_nI (by omega)]
    have eb : vbk N up (upd r m (nI w)) (m + 1) = sk_en b p (up + N (612 + w)) (N (606 + w)) := by unfold vbk; rw [e2, e3, em, vv_nI (by omega), hb, hp]
    have hle : vt N r m + x ≤ n := by
      have q := hca.2.2
      rw [ht, ex, nI_add] at q
      exact (nI_leI (by have := hP.2.2; omega) (by omega)).mp q
    refine ih (m + 1) _ _ _ _ _ s2 ⟨fun i hi => ?_, fun i hi => ?_, by rw [et]; exact hle⟩ ?_ ?_ ?_ hs2
    · by_cases q : i = m
      · exact ⟨w, hw, by rw [q]; exact em⟩
      · obtain ⟨y, hy, ey⟩ := hP.1 i (by omega)
        exact ⟨y, hy, by unfold upd; rw [if_neg q]; exact ey⟩
    · by_cases q : i = m
      · rw [q, eb]; exact Int32.not_lt.mp hen
      · have := (v_c (N := N) (up := up) (r := upd r m (nI w)) (r' := r) (i + 1) (fun j hj => by unfold upd; rw [if_neg (by omega)])).2.2
        rw [this]; exact hP.2.1 i (by omega)
    · rw [et, ht, ex, nI_add]
    · rw [eb]
    · unfold vpn; rw [e2, em, vv_nI (by omega), hp]
theorem gd_fp {N : Nat → Int32} {l k n : Nat} {tries : Int32} (hk : k ≤ 6) (hn : n ≤ 24) (hY : mo_Y N k) : gd N k (sp_pb N 0 l) n (fp_s N l k (nI n) tries) := by
  refine gd_sk hk hn hY 6 0 _ 0 _ _ _ _ ⟨fun i hi => absurd hi (Nat.not_lt_zero _), fun i hi => absurd hi (Nat.not_lt_zero _), Nat.zero_le _⟩ rfl rfl rfl (fun h => absurd (show (0 : Int32) ≤ -1 from h) (by decide))
/-- within a stay all hours are paid -/
theorem pd_pos {b p c : Int32} {m : Nat} (h : 0 ≤ sk_pd b p c m) {j : Nat} (hj : j ≤ m) : 0 ≤ sk_pd b p c j := by
  by_cases q : sk_pd b p c j < 0
  · rw [sk_pd_neg q hj] at h; exact absurd q (Int32.not_lt.mpr h)
  · exact Int32.not_lt.mp q
theorem pd_s {b p c : Int32} {j : Nat} (h : 0 ≤ sk_pd b p c (j + 1)) : sk_pd b p c (j + 1) = sp_min 9999 (sk_pd b p c j + p) - c := by
  have h2 := pd_pos h (show j ≤ j + 1 by omega)
  show (if sk_pd b p c j < 0 then _ else _) = _
  rw [if_neg (Int32.not_lt.mpr h2)]
theorem en_1 {b p c : Int32} {j : Nat} (h : 0 ≤ sk_pd b p c (j + 1)) : sk_en (sk_pd b p c j) p c 1 = sk_pd b p c (j + 1) := by
  have h2 := pd_pos h (show j ≤ j + 1 by omega)
  have e : sk_pd (sk_pd b p c j) p c 1 = sk_pd b p c (j + 1) := by
    show (if sk_pd b p c j < 0 then _ else _) = (if sk_pd b p c j < 0 then _ else _)
    rw [if_neg (Int32.not_lt.mpr h2), if_neg (Int32.not_lt.mpr h2)]; rfl
  unfold sk_en
  rw [show vv 1 = 1 from rfl, e, if_pos h]
theorem en_p {b p c : Int32} {m : Nat} (hm : m < 2 ^ 31) (h : 0 ≤ sk_en b p c (nI m)) : sk_en b p c (nI m) = sk_pd b p c m ∧ 0 ≤ sk_pd b p c m := by
  unfold sk_en at *
  rw [vv_nI hm] at *
  by_cases q : 0 ≤ sk_pd b p c m
  · rw [if_pos q]; exact ⟨rfl, q⟩
  · rw [if_neg q] at h; exact absurd h (by decide)
