/-! THE REFERENCE does not see the class's cells -/
def mx (A J : mm_I) : mm_I := fun a => if a < 200 then A a else J a
theorem mx_hi {A J : mm_I} {a : Nat} (h : 200 ≤ a) : mx A J a = J a := if_neg (by omega)
theorem mx_lo {A J : mm_I} {a : Nat} (h : a < 200) : mx A J a = A a := if_pos h
theorem mx_eq {K I : mm_I} (h : ∀ a, 200 ≤ a → K a = I a) : K = mx K I := by
  funext a
  by_cases e : a < 200
  · rw [mx_lo e]
  · rw [mx_hi (by omega), h a (by omega)]
theorem mx_ite {c : Prop} [Decidable c] {A x y : mm_I} : (if c then mx A x else mx A y) = mx A (if c then x else y) := by split <;> rfl
theorem mx_itp {c : Prop} [Decidable c] {A : mm_I} {x y : Int32 × mm_I} : (if c then (x.1, mx A x.2) else (y.1, mx A y.2)) = ((if c then x else y).1, mx A (if c then x else y).2) := by split <;> rfl
theorem mx_upg {A J : mm_I} {a i : Nat} {v : Int32} (h : 200 ≤ a) : mm_up (mx A J) a i v = mx A (mm_up J a i v) := by
  funext b j
  by_cases e : b < 200
  · rw [mx_lo e, mm_up_ne (by omega), mx_lo e]
  · rw [mx_hi (by omega)]
    by_cases e2 : b = a
    · subst e2
      by_cases e3 : j = i
      · subst e3; rw [mm_up_at, mm_up_at]
      · rw [mm_up_ni e3, mm_up_ni e3, mx_hi h]
    · rw [mm_up_ne e2, mm_up_ne e2, mx_hi (by omega)]
theorem mx_cpg {A J : mm_I} {a b p t m : Nat} (ha : 200 ≤ a) (hb : 200 ≤ b) : mm_cp (mx A J) a b p t m = mx A (mm_cp J a b p t m) := by
  funext x j
  by_cases e : x < 200
  · rw [mx_lo e]; unfold mm_cp; rw [if_neg (by omega), mx_lo e]
  · rw [mx_hi (by omega)]; unfold mm_cp; rw [mx_hi ha, mx_hi hb, mx_hi (by omega)]
theorem mx_200 {A J : mm_I} : mx A J 200 = J 200 := rfl
theorem mx_201 {A J : mm_I} : mx A J 201 = J 201 := rfl
theorem mx_202 {A J : mm_I} : mx A J 202 = J 202 := rfl
theorem mx_203 {A J : mm_I} : mx A J 203 = J 203 := rfl
theorem mx_204 {A J : mm_I} : mx A J 204 = J 204 := rfl
theorem mx_205 {A J : mm_I} : mx A J 205 = J 205 := rfl
theorem mx_206 {A J : mm_I} : mx A J 206 = J 206 := rfl
theorem mx_207 {A J : mm_I} : mx A J 207 = J 207 := rfl
theorem mx_208 {A J : mm_I} : mx A J 208 = J 208 := rfl
theorem mx_209 {A J : mm_I} : mx A J 209 = J 209 := rfl
theorem mx_210 {A J : mm_I} : mx A J 210 = J 210 := rfl
theorem mx_211 {A J : mm_I} : mx A J 211 = J 211 := rfl
theorem mx_212 {A J : mm_I} : mx A J 212 = J 212 := rfl
theorem mx_213 {A J : mm_I} : mx A J 213 = J 213 := rfl
theorem mx_u200 {A J : mm_I} {i : Nat} {v : Int32} : mm_up (mx A J) 200 i v = mx A (mm_up J 200 i v) := mx_upg (by decide)
theorem mx_u201 {A J : mm_I} {i : Nat} {v : Int32} : mm_up (mx A J) 201 i v = mx A (mm_up J 201 i v) := mx_upg (by decide)
theorem mx_u203 {A J : mm_I} {i : Nat} {v : Int32} : mm_up (mx A J) 203 i v = mx A (mm_up J 203 i v) := mx_upg (by decide)
theorem mx_u204 {A J : mm_I} {i : Nat} {v : Int32} : mm_up (mx A J) 204 i v = mx A (mm_up J 204 i v) := mx_upg (by decide)
theorem mx_u205 {A J : mm_I} {i : Nat} {v : Int32} : mm_up (mx A J) 205 i v = mx A (mm_up J 205 i v) := mx_upg (by decide)
theorem mx_u206 {A J : mm_I} {i : Nat} {v : Int32} : mm_up (mx A J) 206 i v = mx A (mm_up J 206 i v) := mx_upg (by decide)
theorem x_op_costs {A J : mm_I} {m : Nat} {c v : Int32} : op_costs (mx A J) m c v = mx A (op_costs J m c v) := by
  unfold op_costs
  simp only [mx_200, mx_201, mx_202, mx_203, mx_204, mx_205, mx_206, mx_207, mx_208, mx_210, mx_u200, mx_u201, mx_u203, mx_u204, mx_u205, mx_u206, mx_ite] <;> rfl
theorem x_op_sc1 {A J : mm_I} {m a : Nat} {what : Int32} : op_sc1 (mx A J) m a what = mx A (op_sc1 J m a what) := by
  unfold op_sc1 sc_P sc_n
  simp only [mx_200, mx_201, mx_202, mx_203, mx_204, mx_205, mx_206, mx_207, mx_208, mx_210, mx_u200, mx_u201, mx_u203, mx_u204, mx_u205, mx_u206, x_op_costs, mx_ite] <;> rfl
theorem x_op_scoops {A J : mm_I} {m c : Nat} : op_scoops (mx A J) m c = mx A (op_scoops J m c) := by
  unfold op_scoops
  simp only [mx_200, mx_201, mx_202, mx_203, mx_204, mx_205, mx_206, mx_207, mx_208, mx_210, mx_u200, mx_u201, mx_u203, mx_u204, mx_u205, mx_u206, x_op_sc1, mx_ite] <;> rfl
theorem x_op_dr1 {A J : mm_I} {m a : Nat} : op_dr1 (mx A J) m a = mx A (op_dr1 J m a) := by
  unfold op_dr1
  simp only [mx_200, mx_201, mx_202, mx_203, mx_204, mx_205, mx_206, mx_207, mx_208, mx_210, mx_u200, mx_u201, mx_u203, mx_u204, mx_u205, mx_u206, x_op_costs, mx_ite] <;> rfl
theorem x_op_drops {A J : mm_I} {m c wh : Nat} : op_drops (mx A J) m c wh = mx A (op_drops J m c wh) := by
  unfold op_drops
  simp only [mx_200, mx_201, mx_202, mx_203, mx_204, mx_205, mx_206, mx_207, mx_208, mx_210, mx_u200, mx_u201, mx_u203, mx_u204, mx_u205, mx_u206, x_op_dr1, mx_ite] <;> rfl
theorem x_op_fuses {A J : mm_I} {m c : Nat} : op_fuses (mx A J) m c = mx A (op_fuses J m c) := by
  unfold op_fuses
  simp only [mx_200, mx_201, mx_202, mx_203, mx_204, mx_205, mx_206, mx_207, mx_208, mx_210, mx_u200, mx_u201, mx_u203, mx_u204, mx_u205, mx_u206, x_op_costs, mx_ite] <;> rfl
theorem x_op_charges {A J : mm_I} {m c : Nat} : op_charges (mx A J) m c = mx A (op_charges J m c) := by
  unfold op_charges ch_n
  simp only [mx_200, mx_201, mx_202, mx_203, mx_204, mx_205, mx_206, mx_207, mx_208, mx_210, mx_u200, mx_u201, mx_u203, mx_u204, mx_u205, mx_u206, mx_ite] <;> rfl
theorem x_op_md {A J : mm_I} {m q : Nat} : op_md (mx A J) m q = mx A (op_md J m q) := by
  unfold op_md
  simp only [mx_200, mx_201, mx_202, mx_203, mx_204, mx_205, mx_206, mx_207, mx_208, mx_210, mx_u200, mx_u201, mx_u203, mx_u204, mx_u205, mx_u206, x_op_costs, mx_ite] <;> rfl
theorem x_op_mends {A J : mm_I} {w h n m c : Nat} : op_mends (mx A J) w h n m c = mx A (op_mends J w h n m c) := by
  unfold op_mends
  simp only [mx_200, mx_201, mx_202, mx_203, mx_204, mx_205, mx_206, mx_207, mx_208, mx_210, mx_u200, mx_u201, mx_u203, mx_u204, mx_u205, mx_u206, x_op_md, mx_ite] <;> rfl
theorem x_ac_k {A J : mm_I} {m p s : Nat} : ac_k (mx A J) m p s = mx A (ac_k J m p s) := by
  unfold ac_k
  simp only [mx_200, mx_201, mx_202, mx_203, mx_204, mx_205, mx_206, mx_207, mx_208, mx_210, mx_u200, mx_u201, mx_u203, mx_u204, mx_u205, mx_u206, mx_ite] <;> rfl
theorem x_op_bl {A J : mm_I} {m : Nat} : ∀ s, op_bl (mx A J) m s = mx A (op_bl J m s) := by
  intro s
  induction s with
  | zero => rfl
  | succ s ih =>
    simp only [op_bl, ih, mx_200, mx_201, mx_202, mx_203, mx_204, mx_205, mx_206, mx_207, mx_208, mx_210, mx_u200, mx_u201, mx_u203, mx_u204, mx_u205, mx_u206, mx_ite] <;> rfl
theorem x_op_begin {A J : mm_I} {m p : Nat} : op_begin (mx A J) m p = mx A (op_begin J m p) := by
  unfold op_begin
  simp only [mx_200, mx_201, mx_202, mx_203, mx_204, mx_205, mx_206, mx_207, mx_208, mx_210, mx_u200, mx_u201, mx_u203, mx_u204, mx_u205, mx_u206, x_op_bl, mx_ite] <;> rfl
theorem x_oc_mv {A J : mm_I} {k : Nat} {x y z : Int32} : oc_mv (mx A J) k x y z = mx A (oc_mv J k x y z) := by
  unfold oc_mv
  simp only [mx_200, mx_201, mx_202, mx_203, mx_204, mx_205, mx_206, mx_207, mx_208, mx_210, mx_u200, mx_u201, mx_u203, mx_u204, mx_u205, mx_u206, mx_ite] <;> rfl
theorem x_oc {A J : mm_I} : ∀ i, oc (mx A J) i = (mx A (oc J i).1, (oc J i).2) := by
  intro i
  induction i with
  | zero => rfl
  | succ i ih =>
    simp only [oc, ih, mx_200, mx_201, mx_202, mx_203, mx_204, mx_205, mx_206, mx_207, mx_208, mx_210, mx_u200, mx_u201, mx_u203, mx_u204, mx_u205, mx_u206, x_op_begin, x_oc_mv]
    split <;> rfl
theorem x_op_oc {A J : mm_I} {o : Nat} : op_oc (mx A J) o = mx A (op_oc J o) := by
  unfold op_oc
  simp only [mx_200, mx_201, mx_202, mx_203, mx_204, mx_205, mx_206, mx_207, mx_208, mx_210, mx_u200, mx_u201, mx_u203, mx_u204, mx_u205, mx_u206, x_oc, mx_ite] <;> rfl
theorem x_rc_mv {A J : mm_I} {k : Nat} {f : Nat → Int32} : rc_mv (mx A J) k f = mx A (rc_mv J k f) := by
  unfold rc_mv
  simp only [mx_200, mx_201, mx_202, mx_203, mx_204, mx_205, mx_206, mx_207, mx_208, mx_210, mx_u200, mx_u201, mx_u203, mx_u204, mx_u205, mx_u206, mx_ite] <;> rfl
theorem x_rc_mp {A J : mm_I} {c : Nat} {f : Nat → Int32} : rc_mp (mx A J) c f = mx A (rc_mp J c f) := by
  unfold rc_mp
  simp only [mx_200, mx_201, mx_202, mx_203, mx_204, mx_205, mx_206, mx_207, mx_208, mx_210, mx_u200, mx_u201, mx_u203, mx_u204, mx_u205, mx_u206, mx_ite] <;> rfl
theorem x_rc {A J : mm_I} : ∀ i, rc (mx A J) i = (mx A (rc J i).1, (rc J i).2) := by
  intro i
  induction i with
  | zero => rfl
  | succ i ih =>
    simp only [rc, ih, mx_200, mx_201, mx_202, mx_203, mx_204, mx_205, mx_206, mx_207, mx_208, mx_210, mx_u200, mx_u201, mx_u203, mx_u204, mx_u205, mx_u206, x_rc_mv, x_rc_mp]
    split <;> rfl
theorem x_op_rc {A J : mm_I} {r : Nat} : op_rc (mx A J) r = mx A (op_rc J r) := by
  unfold op_rc
  simp only [mx_200, mx_201, mx_202, mx_203, mx_204, mx_205, mx_206, mx_207, mx_208, mx_210, mx_u200, mx_u201, mx_u203, mx_u204, mx_u205, mx_u206, x_rc, mx_ite] <;> rfl
theorem x_pa_m {A J : mm_I} : ∀ m, pa_m (mx A J) m = mx A (pa_m J m) := by
  intro m
  induction m with
  | zero => rfl
  | succ m ih =>
    simp only [pa_m, ih, mx_200, mx_201, mx_202, mx_203, mx_204, mx_205, mx_206, mx_207, mx_208, mx_210, mx_u200, mx_u201, mx_u203, mx_u204, mx_u205, mx_u206, mx_ite] <;> rfl
theorem x_op_pa {A J : mm_I} {n : Nat} : op_pa (mx A J) n = mx A (op_pa J n) := by
  unfold op_pa
  simp only [mx_200, mx_201, mx_202, mx_203, mx_204, mx_205, mx_206, mx_207, mx_208, mx_210, mx_u200, mx_u201, mx_u203, mx_u204, mx_u205, mx_u206, x_pa_m, mx_ite] <;> rfl
theorem x_op_pw {A J : mm_I} {D l : Nat} : op_pw (mx A J) D l = mx A (op_pw J D l) := by
  unfold op_pw
  simp only [mx_200, mx_201, mx_202, mx_203, mx_204, mx_205, mx_206, mx_207, mx_208, mx_210, mx_u200, mx_u201, mx_u203, mx_u204, mx_u205, mx_u206, mx_ite] <;> rfl
theorem x_op_pc {A J : mm_I} {n l : Nat} : op_pc (mx A J) n l = mx A (op_pc J n l) := by
  unfold op_pc
  simp only [mx_200, mx_201, mx_202, mx_203, mx_204, mx_205, mx_206, mx_207, mx_208, mx_210, mx_u200, mx_u201, mx_u203, mx_u204, mx_u205, mx_u206, x_op_pa, x_op_pw, mx_ite] <;> rfl
theorem x_rg_a {A J : mm_I} {r : Nat} {f : Nat → Int32} : rg_a (mx A J) r f = mx A (rg_a J r f) := by
  unfold rg_a
  simp only [mx_200, mx_201, mx_202, mx_203, mx_204, mx_205, mx_206, mx_207, mx_208, mx_210, mx_u200, mx_u201, mx_u203, mx_u204, mx_u205, mx_u206, mx_ite] <;> rfl
theorem x_rg {A J : mm_I} {r0 : Nat} : ∀ m, rg (mx A J) r0 m = (mx A (rg J r0 m).1, (rg J r0 m).2) := by
  intro m
  induction m with
  | zero => rfl
  | succ m ih =>
    simp only [rg, ih, mx_200, mx_201, mx_202, mx_203, mx_204, mx_205, mx_206, mx_207, mx_208, mx_210, mx_u200, mx_u201, mx_u203, mx_u204, mx_u205, mx_u206, x_rg_a]
    split <;> rfl
theorem x_op_rg {A J : mm_I} {n r0 : Nat} : op_rg (mx A J) n r0 = mx A (op_rg J n r0) := by
  unfold op_rg
  simp only [mx_200, mx_201, mx_202, mx_203, mx_204, mx_205, mx_206, mx_207, mx_208, mx_210, mx_u200, mx_u201, mx_u203, mx_u204, mx_u205, mx_u206, x_rg, x_op_rc, mx_ite] <;> rfl
theorem x_bf_m {A J : mm_I} {s : bf_S} : bf_m (mx A J) s = mx A (bf_m J s) := by
  funext a
  unfold bf_m mx
  by_cases e : a < 200
  · rw [if_neg (by omega), if_neg (by omega), if_pos e, if_pos e]
  · rw [if_neg e, if_neg e]
theorem x_bf_r {A J : mm_I} {w h t : Nat} : bf_r (mx A J) w h t = bf_r J w h t := rfl
theorem x_vo_m {A J : mm_I} {f : Nat → Int32} : vo_m (mx A J) f = mx A (vo_m J f) := by
  funext a
  unfold vo_m mx
  by_cases e : a < 200
  · rw [if_neg (by omega), if_pos e, if_pos e]
  · rw [if_neg e, if_neg e]
theorem x_sp_vo {A J : mm_I} {w m c K : Nat} : sp_vo (mx A J) w m c K = sp_vo J w m c K := rfl
theorem x_op_gs {A J K : mm_I} {n m p s : Nat} {b : Int32} : op_gs (mx A J) (mx A K) n m p s b = mx A (op_gs J K n m p s b) := by
  unfold op_gs
  simp only [mx_200, mx_201, mx_202, mx_203, mx_204, mx_205, mx_206, mx_207, mx_208, mx_210, mx_u200, mx_u201, mx_u203, mx_u204, mx_u205, mx_u206, x_op_costs, mx_ite]
theorem x_op_goes {A J : mm_I} {w h n m p s c : Nat} : op_goes (mx A J) w h n m p s c = mx A (op_goes J w h n m p s c) := by
  unfold op_goes
  simp only [mx_200, mx_201, mx_202, mx_203, mx_204, mx_205, mx_206, mx_207, mx_208, mx_210, mx_u200, mx_u201, mx_u203, mx_u204, mx_u205, mx_u206, x_bf_m, x_bf_r, x_op_gs, mx_ite] <;> rfl
theorem x_op_acts {A J : mm_I} {w h n m p s c wh : Nat} : ∀ o, op_acts (mx A J) w h n m p s c wh o = mx A (op_acts J w h n m p s c wh o) := by
  intro o
  unfold op_acts
  split <;> simp only [x_op_scoops, x_op_drops, x_op_fuses, x_op_charges, x_op_mends, x_ac_k]
theorem x_op_in {A J : mm_I} {w m p s c : Nat} : op_in (mx A J) w m p s c = ((op_in J w m p s c).1, mx A (op_in J w m p s c).2) := by
  unfold op_in
  simp only [mx_200, mx_201, mx_202, mx_203, mx_204, mx_205, mx_206, mx_207, mx_208, mx_210, mx_u200, mx_u201, mx_u203, mx_u204, mx_u205, mx_u206, x_sp_vo, x_vo_m]
  split <;> rfl
theorem x_op_go {A : mm_I} {w h n m c wh p : Nat} : ∀ k J, op_go w h n m c wh p k (mx A J) = mx A (op_go w h n m c wh p k J) := by
  intro k
  induction k with
  | zero => intro J; rfl
  | succ k ih =>
    intro J
    simp only [op_go, op_gos, mx_200, mx_201, mx_202, mx_203, mx_204, mx_205, mx_206, mx_207, mx_208, mx_210, mx_u200, mx_u201, mx_u203, mx_u204, mx_u205, mx_u206, x_op_goes, x_op_acts, x_sp_vo, x_vo_m, x_op_in, ih, mx_ite]
theorem x_tk_m {A J : mm_I} {w h n : Nat} : ∀ i, tk_m w h n (mx A J) i = mx A (tk_m w h n J i) := by
  intro i
  induction i with
  | zero => rfl
  | succ i ih => simp only [tk_m, ih, mx_200, mx_201, mx_202, mx_203, mx_204, mx_205, mx_206, mx_207, mx_208, mx_210, x_op_go, mx_ite]
theorem x_op_tick {A J : mm_I} {w h n l : Nat} : op_tick w h n l (mx A J) = mx A (op_tick w h n l J) := by
  simp only [op_tick, tk_4, tk_3, tk_2, tk_1, mx_200, mx_201, mx_202, mx_203, mx_204, mx_205, mx_206, mx_207, mx_208, mx_210, mx_u200, mx_u201, mx_u203, mx_u204, mx_u205, mx_u206, x_op_oc, x_op_rc, x_op_pc, x_tk_m, x_op_rg]
theorem x_rn {A J : mm_I} {w h n l : Nat} : ∀ j, rn w h n l (mx A J) j = mx A (rn w h n l J j) := by
  intro j
  induction j with
  | zero => rfl
  | succ j ih => simp only [rn, ih, x_op_tick]
theorem x_op_run {A J : mm_I} {w h n l : Nat} {x : Int32} : op_run w h n l (mx A J) x = ((op_run w h n l J x).1, mx A (op_run w h n l J x).2) := by
  unfold op_run
  simp only [x_rn, mx_200, mx_201, mx_202, mx_203, mx_204, mx_205, mx_206, mx_207, mx_208, mx_210]
  split
  · rfl
  · split <;> rfl
