/-! THE REFERENCE: what TICKS leave alone -/
def my (A J : mm_I) : mm_I := fun a => if a = 201 ∨ a = 207 ∨ a = 208 ∨ a = 210 then J a else A a
theorem my_hi {A J : mm_I} {a : Nat} (h : a = 201 ∨ a = 207 ∨ a = 208 ∨ a = 210) : my A J a = J a := if_pos h
theorem my_lo {A J : mm_I} {a : Nat} (h : ¬ (a = 201 ∨ a = 207 ∨ a = 208 ∨ a = 210)) : my A J a = A a := if_neg h
theorem my_ite {c : Prop} [Decidable c] {A x y : mm_I} : (if c then my A x else my A y) = my A (if c then x else y) := by split <;> rfl
theorem my_201 {A J : mm_I} : my A J 201 = J 201 := rfl
theorem my_207 {A J : mm_I} : my A J 207 = J 207 := rfl
theorem my_208 {A J : mm_I} : my A J 208 = J 208 := rfl
theorem my_210 {A J : mm_I} : my A J 210 = J 210 := rfl
theorem my_u201 {A J : mm_I} {i : Nat} {v : Int32} : mm_up (my A J) 201 i v = my A (mm_up J 201 i v) := by
  funext b j
  by_cases e : b = 201
  · subst e
    rw [my_201]
    by_cases e3 : j = i
    · subst e3; rw [mm_up_at, mm_up_at]
    · rw [mm_up_ni e3, mm_up_ni e3, my_201]
  · rw [mm_up_ne e]
    by_cases e2 : b = 207 ∨ b = 208 ∨ b = 210
    · rw [my_hi (by omega), my_hi (by omega), mm_up_ne e]
    · rw [my_lo (by omega), my_lo (by omega)]
theorem y_op_costs {A J : mm_I} {m : Nat} {c v : Int32} : op_costs (my A J) m c v = my A (op_costs J m c v) := by
  unfold op_costs
  simp only [my_201, my_207, my_208, my_210, my_u201, my_ite] <;> rfl
theorem y_op_sc1 {A J : mm_I} {m a : Nat} {what : Int32} : op_sc1 (my A J) m a what = my A (op_sc1 J m a what) := by
  unfold op_sc1 sc_P sc_n
  simp only [my_201, my_207, my_208, my_210, my_u201, y_op_costs, my_ite] <;> rfl
theorem y_op_scoops {A J : mm_I} {m c : Nat} : op_scoops (my A J) m c = my A (op_scoops J m c) := by
  unfold op_scoops
  simp only [my_201, my_207, my_208, my_210, my_u201, y_op_sc1, my_ite] <;> rfl
theorem y_op_dr1 {A J : mm_I} {m a : Nat} : op_dr1 (my A J) m a = my A (op_dr1 J m a) := by
  unfold op_dr1
  simp only [my_201, my_207, my_208, my_210, my_u201, y_op_costs, my_ite] <;> rfl
theorem y_op_drops {A J : mm_I} {m c wh : Nat} : op_drops (my A J) m c wh = my A (op_drops J m c wh) := by
  unfold op_drops
  simp only [my_201, my_207, my_208, my_210, my_u201, y_op_dr1, my_ite] <;> rfl
theorem y_op_fuses {A J : mm_I} {m c : Nat} : op_fuses (my A J) m c = my A (op_fuses J m c) := by
  unfold op_fuses
  simp only [my_201, my_207, my_208, my_210, my_u201, y_op_costs, my_ite] <;> rfl
theorem y_op_charges {A J : mm_I} {m c : Nat} : op_charges (my A J) m c = my A (op_charges J m c) := by
  unfold op_charges ch_n
  simp only [my_201, my_207, my_208, my_210, my_u201, my_ite] <;> rfl
theorem y_op_md {A J : mm_I} {m q : Nat} : op_md (my A J) m q = my A (op_md J m q) := by
  unfold op_md
  simp only [my_201, my_207, my_208, my_210, my_u201, y_op_costs, my_ite] <;> rfl
theorem y_op_mends {A J : mm_I} {w h n m c : Nat} : op_mends (my A J) w h n m c = my A (op_mends J w h n m c) := by
  unfold op_mends
  simp only [my_201, my_207, my_208, my_210, my_u201, y_op_md, my_ite] <;> rfl
theorem y_ac_k {A J : mm_I} {m p s : Nat} : ac_k (my A J) m p s = my A (ac_k J m p s) := by
  unfold ac_k
  simp only [my_201, my_207, my_208, my_210, my_u201, my_ite] <;> rfl
theorem y_op_bl {A J : mm_I} {m : Nat} : ∀ s, op_bl (my A J) m s = my A (op_bl J m s) := by
  intro s
  induction s with
  | zero => rfl
  | succ s ih =>
    simp only [op_bl, ih, my_201, my_207, my_208, my_210, my_u201, my_ite] <;> rfl
theorem y_op_begin {A J : mm_I} {m p : Nat} : op_begin (my A J) m p = my A (op_begin J m p) := by
  unfold op_begin
  simp only [my_201, my_207, my_208, my_210, my_u201, y_op_bl, my_ite] <;> rfl
theorem y_oc_mv {A J : mm_I} {k : Nat} {x y z : Int32} : oc_mv (my A J) k x y z = my A (oc_mv J k x y z) := by
  unfold oc_mv
  simp only [my_201, my_207, my_208, my_210, my_u201, my_ite] <;> rfl
theorem y_oc {A J : mm_I} : ∀ i, oc (my A J) i = (my A (oc J i).1, (oc J i).2) := by
  intro i
  induction i with
  | zero => rfl
  | succ i ih =>
    simp only [oc, ih, my_201, my_207, my_208, my_210, my_u201, y_op_begin, y_oc_mv]
    split <;> rfl
theorem y_op_oc {A J : mm_I} {o : Nat} : op_oc (my A J) o = my A (op_oc J o) := by
  unfold op_oc
  simp only [my_201, my_207, my_208, my_210, my_u201, y_oc, my_ite] <;> rfl
theorem y_rc_mv {A J : mm_I} {k : Nat} {f : Nat → Int32} : rc_mv (my A J) k f = my A (rc_mv J k f) := by
  unfold rc_mv
  simp only [my_201, my_207, my_208, my_210, my_u201, my_ite] <;> rfl
theorem y_rc_mp {A J : mm_I} {c : Nat} {f : Nat → Int32} : rc_mp (my A J) c f = my A (rc_mp J c f) := by
  unfold rc_mp
  simp only [my_201, my_207, my_208, my_210, my_u201, my_ite] <;> rfl
theorem y_rc {A J : mm_I} : ∀ i, rc (my A J) i = (my A (rc J i).1, (rc J i).2) := by
  intro i
  induction i with
  | zero => rfl
  | succ i ih =>
    simp only [rc, ih, my_201, my_207, my_208, my_210, my_u201, y_rc_mv, y_rc_mp]
    split <;> rfl
theorem y_op_rc {A J : mm_I} {r : Nat} : op_rc (my A J) r = my A (op_rc J r) := by
  unfold op_rc
  simp only [my_201, my_207, my_208, my_210, my_u201, y_rc, my_ite] <;> rfl
theorem y_pa_m {A J : mm_I} : ∀ m, pa_m (my A J) m = my A (pa_m J m) := by
  intro m
  induction m with
  | zero => rfl
  | succ m ih =>
    simp only [pa_m, ih, my_201, my_207, my_208, my_210, my_u201, my_ite] <;> rfl
theorem y_op_pa {A J : mm_I} {n : Nat} : op_pa (my A J) n = my A (op_pa J n) := by
  unfold op_pa
  simp only [my_201, my_207, my_208, my_210, my_u201, y_pa_m, my_ite] <;> rfl
theorem y_op_pw {A J : mm_I} {D l : Nat} : op_pw (my A J) D l = my A (op_pw J D l) := by
  unfold op_pw
  simp only [my_201, my_207, my_208, my_210, my_u201, my_ite] <;> rfl
theorem y_op_pc {A J : mm_I} {n l : Nat} : op_pc (my A J) n l = my A (op_pc J n l) := by
  unfold op_pc
  simp only [my_201, my_207, my_208, my_210, my_u201, y_op_pa, y_op_pw, my_ite] <;> rfl
theorem y_rg_a {A J : mm_I} {r : Nat} {f : Nat → Int32} : rg_a (my A J) r f = my A (rg_a J r f) := by
  unfold rg_a
  simp only [my_201, my_207, my_208, my_210, my_u201, my_ite] <;> rfl
theorem y_rg {A J : mm_I} {r0 : Nat} : ∀ m, rg (my A J) r0 m = (my A (rg J r0 m).1, (rg J r0 m).2) := by
  intro m
  induction m with
  | zero => rfl
  | succ m ih =>
    simp only [rg, ih, my_201, my_207, my_208, my_210, my_u201, y_rg_a]
    split <;> rfl
theorem y_op_rg {A J : mm_I} {n r0 : Nat} : op_rg (my A J) n r0 = my A (op_rg J n r0) := by
  unfold op_rg
  simp only [my_201, my_207, my_208, my_210, my_u201, y_rg, y_op_rc, my_ite] <;> rfl
theorem y_bf_m {A J : mm_I} {s : bf_S} : bf_m (my A J) s = my A (bf_m J s) := by
  funext a
  by_cases e : a = 201 ∨ a = 207 ∨ a = 208 ∨ a = 210
  · rw [my_hi e]; unfold bf_m; rw [my_hi e]
  · rw [my_lo e]; unfold bf_m; rw [if_neg (by omega), if_neg (by omega), my_lo e]
theorem y_bf_r {A J : mm_I} {w h t : Nat} : bf_r (my A J) w h t = bf_r J w h t := rfl
theorem y_vo_m {A J : mm_I} {f : Nat → Int32} : vo_m (my A J) f = my A (vo_m J f) := by
  funext a
  by_cases e : a = 201 ∨ a = 207 ∨ a = 208 ∨ a = 210
  · rw [my_hi e]; unfold vo_m; rw [my_hi e]
  · rw [my_lo e]; unfold vo_m; rw [if_neg (by omega), my_lo e]
theorem y_sp_vo {A J : mm_I} {w m c K : Nat} : sp_vo (my A J) w m c K = sp_vo J w m c K := rfl
theorem y_op_gs {A J K : mm_I} {n m p s : Nat} {b : Int32} : op_gs (my A J) (my A K) n m p s b = my A (op_gs J K n m p s b) := by
  unfold op_gs
  simp only [my_201, my_207, my_208, my_210, my_u201, y_op_costs, my_ite]
theorem y_op_goes {A J : mm_I} {w h n m p s c : Nat} : op_goes (my A J) w h n m p s c = my A (op_goes J w h n m p s c) := by
  unfold op_goes
  simp only [my_201, my_207, my_208, my_210, my_u201, y_bf_m, y_bf_r, y_op_gs, my_ite] <;> rfl
theorem y_op_acts {A J : mm_I} {w h n m p s c wh : Nat} : ∀ o, op_acts (my A J) w h n m p s c wh o = my A (op_acts J w h n m p s c wh o) := by
  intro o
  unfold op_acts
  split <;> simp only [y_op_scoops, y_op_drops, y_op_fuses, y_op_charges, y_op_mends, y_ac_k]
theorem y_op_in {A J : mm_I} {w m p s c : Nat} : op_in (my A J) w m p s c = ((op_in J w m p s c).1, my A (op_in J w m p s c).2) := by
  unfold op_in
  simp only [my_201, my_207, my_208, my_210, my_u201, y_sp_vo, y_vo_m]
  split <;> rfl
theorem y_op_go {A : mm_I} {w h n m c wh p : Nat} : ∀ k J, op_go w h n m c wh p k (my A J) = my A (op_go w h n m c wh p k J) := by
  intro k
  induction k with
  | zero => intro J; rfl
  | succ k ih =>
    intro J
    simp only [op_go, op_gos, my_201, my_207, my_208, my_210, my_u201, y_op_goes, y_op_acts, y_sp_vo, y_vo_m, y_op_in, ih, my_ite]
theorem y_tk_m {A J : mm_I} {w h n : Nat} : ∀ i, tk_m w h n (my A J) i = my A (tk_m w h n J i) := by
  intro i
  induction i with
  | zero => rfl
  | succ i ih => simp only [tk_m, ih, my_201, my_207, my_208, my_210, y_op_go, my_ite]
theorem y_op_tick {A J : mm_I} {w h n l : Nat} : op_tick w h n l (my A J) = my A (op_tick w h n l J) := by
  simp only [op_tick, tk_4, tk_3, tk_2, tk_1, my_201, my_207, my_208, my_210, my_u201, y_op_oc, y_op_rc, y_op_pc, y_tk_m, y_op_rg]
theorem y_rn {A J : mm_I} {w h n l : Nat} : ∀ j, rn w h n l (my A J) j = my A (rn w h n l J j) := by
  intro j
  induction j with
  | zero => rfl
  | succ j ih => simp only [rn, ih, y_op_tick]
theorem y_op_run {A J : mm_I} {w h n l : Nat} {x : Int32} : op_run w h n l (my A J) x = ((op_run w h n l J x).1, my A (op_run w h n l J x).2) := by
  unfold op_run
  simp only [y_rn, my_201, my_207, my_208, my_210]
  split
  · rfl
  · split <;> rfl
theorem my_s {J : mm_I} : my J J = J := by
  funext a
  by_cases e : a = 201 ∨ a = 207 ∨ a = 208 ∨ a = 210
  · exact my_hi e
  · exact my_lo e
theorem run_a {J : mm_I} {w h n l a : Nat} {x : Int32} (ha : ¬ (a = 201 ∨ a = 207 ∨ a = 208 ∨ a = 210)) : (op_run w h n l J x).2 a = J a := by
  have q := y_op_run (A := J) (J := J) (w := w) (h := h) (n := n) (l := l) (x := x)
  rw [my_s] at q
  have q2 := congrArg (fun z => z.2 a) q
  rw [show (op_run w h n l J x).2 a = ((op_run w h n l J x).1, my J (op_run w h n l J x).2).2 a from q2]
  exact my_lo ha
