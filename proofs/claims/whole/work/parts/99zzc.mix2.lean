/-! THE REFERENCE does not see the class's cells: calls -/
theorem x_op_lgs {A J : mm_I} {w h : Nat} : ∀ c, op_lgs (mx A J) w h c = mx A (op_lgs J w h c) := by
  intro c
  induction c with
  | zero => rfl
  | succ c ih =>
    simp only [op_lgs, ih, mx_200, mx_201, mx_202, mx_203, mx_204, mx_205, mx_206, mx_207, mx_208, mx_210, mx_u200, mx_u201, mx_u203, mx_u204, mx_u205, mx_u206, mx_ite] <;> rfl
theorem x_op_lg {A J : mm_I} {w h : Nat} : op_lg (mx A J) w h = mx A (op_lg J w h) := by
  unfold op_lg
  simp only [mx_200, mx_201, mx_202, mx_203, mx_204, mx_205, mx_206, mx_207, mx_208, mx_210, mx_u200, mx_u201, mx_u203, mx_u204, mx_u205, mx_u206, x_op_lgs, mx_ite] <;> rfl
theorem x_op_ly {A J : mm_I} {s : Nat} : ∀ k, op_ly (mx A J) s k = mx A (op_ly J s k) := by
  intro k
  induction k with
  | zero => rfl
  | succ k ih =>
    simp only [op_ly, ih, mx_200, mx_201, mx_202, mx_203, mx_204, mx_205, mx_206, mx_207, mx_208, mx_210, mx_u200, mx_u201, mx_u203, mx_u204, mx_u205, mx_u206, mx_ite] <;> rfl
theorem x_op_fds {A J : mm_I} {t : Nat} {a b c : Int32} : ∀ k, op_fds (mx A J) t a b c k = mx A (op_fds J t a b c k) := by
  intro k
  induction k with
  | zero => rfl
  | succ k ih =>
    simp only [op_fds, ih, mx_200, mx_201, mx_202, mx_203, mx_204, mx_205, mx_206, mx_207, mx_208, mx_210, mx_u200, mx_u201, mx_u203, mx_u204, mx_u205, mx_u206, mx_ite] <;> rfl
theorem x_op_lw {A J : mm_I} {w : Nat} {c : Int32} : ∀ m, op_lw (mx A J) w c m = mx A (op_lw J w c m) := by
  intro m
  induction m with
  | zero => rfl
  | succ m ih =>
    simp only [op_lw, ih, mx_200, mx_201, mx_202, mx_203, mx_204, mx_205, mx_206, mx_207, mx_208, mx_210, mx_u200, mx_u201, mx_u203, mx_u204, mx_u205, mx_u206, mx_ite] <;> rfl
theorem x_op_lc {A J : mm_I} {w : Nat} {c : Int32} : ∀ k, op_lc (mx A J) w c k = mx A (op_lc J w c k) := by
  intro k
  induction k with
  | zero => rfl
  | succ k ih =>
    simp only [op_lc, ih, mx_200, mx_201, mx_202, mx_203, mx_204, mx_205, mx_206, mx_207, mx_208, mx_210, mx_u200, mx_u201, mx_u203, mx_u204, mx_u205, mx_u206, mx_ite] <;> rfl
theorem x_op_lp {A J : mm_I} {p : Int32} : op_lp (mx A J) p = mx A (op_lp J p) := by
  unfold op_lp
  simp only [mx_200, mx_201, mx_202, mx_203, mx_204, mx_205, mx_206, mx_207, mx_208, mx_210, mx_u200, mx_u201, mx_u203, mx_u204, mx_u205, mx_u206, mx_ite] <;> rfl
theorem x_op_zs {A J : mm_I} {o : Nat} : ∀ k, op_zs (mx A J) 206 o k = mx A (op_zs J 206 o k) := by
  intro k
  induction k with
  | zero => rfl
  | succ k ih => simp only [op_zs, ih, mx_u200, mx_u201, mx_u203, mx_u204, mx_u205, mx_u206]
theorem x_op_pe {A J : mm_I} {p : Nat} : ∀ m, op_pe (mx A J) p m = mx A (op_pe J p m) := by
  intro m
  induction m with
  | zero => rfl
  | succ m ih => simp only [op_pe, ih, mx_201, mx_u201] <;> rfl
theorem x_pz {A J : mm_I} {p : Nat} {q : Nat × Nat × Nat} {fl bs br ns : Nat} {N : Nat → Int32} {CS : List Nat} : pz (mx A J) p q fl bs br ns N CS = mx A (pz J p q fl bs br ns N CS) := by
  funext a
  unfold pz mx
  by_cases e : a < 200
  · rw [if_neg (by omega), if_neg (by omega), if_pos e, if_pos e]
  · rw [if_neg e, if_neg e]; rfl
theorem x_pg_J {A J : mm_I} {p n : Nat} : pg_J (mx A J) p n = mx A (pg_J J p n) := by
  unfold pg_J; simp only [mx_u200, x_op_pe]
theorem x_pg_N {A J : mm_I} {p n : Nat} : pg_N (mx A J) p n = pg_N J p n := by
  unfold pg_N; rw [x_pg_J, mx_201]
theorem x_pg_R {A J : mm_I} {p n t : Nat} : pg_R (mx A J) p n t = pg_R J p n t := by
  unfold pg_R; rw [x_pg_N, mx_203]
theorem x_pg_Z {A J : mm_I} {p n t fl : Nat} : pg_Z (mx A J) p n t fl = mx A (pg_Z J p n t fl) := by
  unfold pg_Z; simp only [x_pg_J, x_pg_R, mx_u200, mx_203, x_pz]
theorem x_op_pg {A J : mm_I} {p n t : Nat} : op_pg (mx A J) p n t = ((op_pg J p n t).1, mx A (op_pg J p n t).2) := by
  unfold op_pg pg_ok; simp only [x_pg_R, x_pg_Z, mx_203, mx_u201]; split <;> rfl
theorem x_op_ground {A J : mm_I} {a b : Int32} : op_ground (mx A J) a b = ((op_ground J a b).1, mx A (op_ground J a b).2) := by
  unfold op_ground
  simp only [mx_200, mx_201, mx_202, mx_203, mx_204, mx_205, mx_206, mx_207, mx_208, mx_210, mx_u200, mx_u201, mx_u203, mx_u204, mx_u205, mx_u206, x_op_lg] <;> first | rfl | (split <;> rfl) | (split; rfl; split <;> rfl) | (split; rfl; split; rfl; split <;> rfl)
theorem x_op_cell {A J : mm_I} {w h n : Nat} {c k : Int32} : op_cell w h n (mx A J) c k = ((op_cell w h n J c k).1, mx A (op_cell w h n J c k).2) := by
  unfold op_cell
  simp only [mx_200, mx_201, mx_202, mx_203, mx_204, mx_205, mx_206, mx_207, mx_208, mx_210, mx_u200, mx_u201, mx_u203, mx_u204, mx_u205, mx_u206] <;> first | rfl | (split <;> rfl) | (split; rfl; split <;> rfl) | (split; rfl; split; rfl; split <;> rfl)
theorem x_op_put {A J : mm_I} {w h : Nat} {c k v : Int32} : op_put w h (mx A J) c k v = ((op_put w h J c k v).1, mx A (op_put w h J c k v).2) := by
  unfold op_put
  simp only [mx_200, mx_201, mx_202, mx_203, mx_204, mx_205, mx_206, mx_207, mx_208, mx_210, mx_u200, mx_u201, mx_u203, mx_u204, mx_u205, mx_u206] <;> first | rfl | (split <;> rfl) | (split; rfl; split <;> rfl) | (split; rfl; split; rfl; split <;> rfl)
theorem x_op_lay {A J : mm_I} {w h : Nat} {s : Int32} : op_lay w h (mx A J) s = ((op_lay w h J s).1, mx A (op_lay w h J s).2) := by
  unfold op_lay
  simp only [mx_200, mx_201, mx_202, mx_203, mx_204, mx_205, mx_206, mx_207, mx_208, mx_210, mx_u200, mx_u201, mx_u203, mx_u204, mx_u205, mx_u206, x_op_ly] <;> first | rfl | (split <;> rfl) | (split; rfl; split <;> rfl) | (split; rfl; split; rfl; split <;> rfl)
theorem x_op_steps {A J : mm_I} {w h : Nat} {c o : Int32} : op_steps w h (mx A J) c o = ((op_steps w h J c o).1, mx A (op_steps w h J c o).2) := by
  unfold op_steps
  simp only [mx_200, mx_201, mx_202, mx_203, mx_204, mx_205, mx_206, mx_207, mx_208, mx_210, mx_u200, mx_u201, mx_u203, mx_u204, mx_u205, mx_u206, x_bf_m, x_bf_r] <;> first | rfl | (split <;> rfl) | (split; rfl; split <;> rfl) | (split; rfl; split; rfl; split <;> rfl)
theorem x_op_store {A J : mm_I} {k v : Int32} : op_store (mx A J) k v = ((op_store J k v).1, mx A (op_store J k v).2) := by
  unfold op_store
  simp only [mx_200, mx_201, mx_202, mx_203, mx_204, mx_205, mx_206, mx_207, mx_208, mx_210, mx_u200, mx_u201, mx_u203, mx_u204, mx_u205, mx_u206] <;> first | rfl | (split <;> rfl) | (split; rfl; split <;> rfl) | (split; rfl; split; rfl; split <;> rfl)
theorem x_op_rule {A J : mm_I} {k v : Int32} : op_rule (mx A J) k v = ((op_rule J k v).1, mx A (op_rule J k v).2) := by
  unfold op_rule
  simp only [mx_200, mx_201, mx_202, mx_203, mx_204, mx_205, mx_206, mx_207, mx_208, mx_210, mx_u200, mx_u201, mx_u203, mx_u204, mx_u205, mx_u206] <;> first | rfl | (split <;> rfl) | (split; rfl; split <;> rfl) | (split; rfl; split; rfl; split <;> rfl)
theorem x_op_load {A J : mm_I} {l : Nat} {p v : Int32} : op_load l (mx A J) p v = ((op_load l J p v).1, mx A (op_load l J p v).2) := by
  unfold op_load
  simp only [mx_200, mx_201, mx_202, mx_203, mx_204, mx_205, mx_206, mx_207, mx_208, mx_210, mx_u200, mx_u201, mx_u203, mx_u204, mx_u205, mx_u206] <;> first | rfl | (split <;> rfl) | (split; rfl; split <;> rfl) | (split; rfl; split; rfl; split <;> rfl)
theorem x_op_machine {A J : mm_I} {w h n : Nat} {k c : Int32} : op_machine w h n (mx A J) k c = ((op_machine w h n J k c).1, mx A (op_machine w h n J k c).2) := by
  unfold op_machine
  simp only [mx_200, mx_201, mx_202, mx_203, mx_204, mx_205, mx_206, mx_207, mx_208, mx_210, mx_u200, mx_u201, mx_u203, mx_u204, mx_u205, mx_u206] <;> first | rfl | (split <;> rfl) | (split; rfl; split <;> rfl) | (split; rfl; split; rfl; split <;> rfl)
theorem x_op_tune {A J : mm_I} {n : Nat} {m k v : Int32} : op_tune n (mx A J) m k v = ((op_tune n J m k v).1, mx A (op_tune n J m k v).2) := by
  unfold op_tune
  simp only [mx_200, mx_201, mx_202, mx_203, mx_204, mx_205, mx_206, mx_207, mx_208, mx_210, mx_u200, mx_u201, mx_u203, mx_u204, mx_u205, mx_u206] <;> first | rfl | (split <;> rfl) | (split; rfl; split <;> rfl) | (split; rfl; split; rfl; split <;> rfl)
theorem x_op_feed {A J : mm_I} {t : Nat} {a b c : Int32} : op_feed t (mx A J) a b c = ((op_feed t J a b c).1, mx A (op_feed t J a b c).2) := by
  unfold op_feed
  simp only [mx_200, mx_201, mx_202, mx_203, mx_204, mx_205, mx_206, mx_207, mx_208, mx_210, mx_u200, mx_u201, mx_u203, mx_u204, mx_u205, mx_u206, x_op_fds] <;> first | rfl | (split <;> rfl) | (split; rfl; split <;> rfl) | (split; rfl; split; rfl; split <;> rfl)
theorem x_op_trim {A J : mm_I} {t : Nat} {n : Int32} : op_trim t (mx A J) n = ((op_trim t J n).1, mx A (op_trim t J n).2) := by
  unfold op_trim
  simp only [mx_200, mx_201, mx_202, mx_203, mx_204, mx_205, mx_206, mx_207, mx_208, mx_210, mx_u200, mx_u201, mx_u203, mx_u204, mx_u205, mx_u206] <;> first | rfl | (split <;> rfl) | (split; rfl; split <;> rfl) | (split; rfl; split; rfl; split <;> rfl)
theorem x_op_program {A J : mm_I} {n t : Nat} {x : Int32} : op_program n t (mx A J) x = ((op_program n t J x).1, mx A (op_program n t J x).2) := by
  unfold op_program
  simp only [mx_200, mx_201, mx_202, mx_203, mx_204, mx_205, mx_206, mx_207, mx_208, mx_210, mx_u200, mx_u201, mx_u203, mx_u204, mx_u205, mx_u206, x_op_pg] <;> first | rfl | (split <;> rfl) | (split; rfl; split <;> rfl) | (split; rfl; split; rfl; split <;> rfl)
theorem x_op_send {A J : mm_I} {n o : Nat} {m p : Int32} : op_send n o (mx A J) m p = ((op_send n o J m p).1, mx A (op_send n o J m p).2) := by
  unfold op_send
  simp only [mx_200, mx_201, mx_202, mx_203, mx_204, mx_205, mx_206, mx_207, mx_208, mx_210, mx_u200, mx_u201, mx_u203, mx_u204, mx_u205, mx_u206] <;> first | rfl | (split <;> rfl) | (split; rfl; split <;> rfl) | (split; rfl; split; rfl; split <;> rfl)
theorem x_op_land {A J : mm_I} {w h n : Nat} {c p : Int32} : op_land w h n (mx A J) c p = ((op_land w h n J c p).1, mx A (op_land w h n J c p).2) := by
  unfold op_land
  simp only [mx_200, mx_201, mx_202, mx_203, mx_204, mx_205, mx_206, mx_207, mx_208, mx_210, mx_u200, mx_u201, mx_u203, mx_u204, mx_u205, mx_u206, x_op_lw, x_op_lc, x_op_lp] <;> first | rfl | (split <;> rfl) | (split; rfl; split <;> rfl) | (split; rfl; split; rfl; split <;> rfl)
theorem x_op_work {A J : mm_I} {k : Nat} {a b c e : Int32} : op_work k (mx A J) a b c e = ((op_work k J a b c e).1, mx A (op_work k J a b c e).2) := by
  unfold op_work
  simp only [mx_200, mx_201, mx_202, mx_203, mx_204, mx_205, mx_206, mx_207, mx_208, mx_210, mx_u200, mx_u201, mx_u203, mx_u204, mx_u205, mx_u206] <;> first | rfl | (split <;> rfl) | (split; rfl; split <;> rfl) | (split; rfl; split; rfl; split <;> rfl)
theorem x_op_clear {A J : mm_I} : op_clear (mx A J) = ((op_clear J).1, mx A (op_clear J).2) := by
  unfold op_clear
  simp only [mx_200, mx_201, mx_202, mx_203, mx_204, mx_205, mx_206, mx_207, mx_208, mx_210, mx_u200, mx_u201, mx_u203, mx_u204, mx_u205, mx_u206] <;> first | rfl | (split <;> rfl) | (split; rfl; split <;> rfl) | (split; rfl; split; rfl; split <;> rfl)
theorem x_op_tell {A J : mm_I} {t : Nat} {v : Int32} : op_tell t (mx A J) v = ((op_tell t J v).1, mx A (op_tell t J v).2) := by
  unfold op_tell
  simp only [mx_200, mx_201, mx_202, mx_203, mx_204, mx_205, mx_206, mx_207, mx_208, mx_210, mx_u200, mx_u201, mx_u203, mx_u204, mx_u205, mx_u206] <;> first | rfl | (split <;> rfl) | (split; rfl; split <;> rfl) | (split; rfl; split; rfl; split <;> rfl)
theorem x_op_keep {A J : mm_I} : op_keep (mx A J) = ((op_keep J).1, mx A (op_keep J).2) := by
  unfold op_keep
  simp only [mx_200, mx_201, mx_202, mx_203, mx_204, mx_205, mx_206, mx_207, mx_208, mx_210, mx_u200, mx_u201, mx_u203, mx_u204, mx_u205, mx_u206, mx_cpg (show 200 ≤ 201 by decide) (show 200 ≤ 202 by decide)] <;> first | rfl | (split <;> rfl) | (split; rfl; split <;> rfl) | (split; rfl; split; rfl; split <;> rfl)
theorem x_op_back {A J : mm_I} : op_back (mx A J) = ((op_back J).1, mx A (op_back J).2) := by
  unfold op_back
  simp only [mx_200, mx_201, mx_202, mx_203, mx_204, mx_205, mx_206, mx_207, mx_208, mx_210, mx_u200, mx_u201, mx_u203, mx_u204, mx_u205, mx_u206, mx_cpg (show 200 ≤ 202 by decide) (show 200 ≤ 201 by decide)] <;> first | rfl | (split <;> rfl) | (split; rfl; split <;> rfl) | (split; rfl; split; rfl; split <;> rfl)
theorem x_op_sheet {A J : mm_I} {s n : Int32} : op_sheet (mx A J) s n = ((op_sheet J s n).1, mx A (op_sheet J s n).2) := by
  unfold op_sheet
  simp only [mx_200, mx_201, mx_202, mx_203, mx_204, mx_205, mx_206, mx_207, mx_208, mx_210, mx_u200, mx_u201, mx_u203, mx_u204, mx_u205, mx_u206, x_op_zs] <;> first | rfl | (split <;> rfl) | (split; rfl; split <;> rfl) | (split; rfl; split; rfl; split <;> rfl)
theorem x_op_mark {A J : mm_I} {s p v : Int32} : op_mark (mx A J) s p v = ((op_mark J s p v).1, mx A (op_mark J s p v).2) := by
  unfold op_mark
  simp only [mx_200, mx_201, mx_202, mx_203, mx_204, mx_205, mx_206, mx_207, mx_208, mx_210, mx_u200, mx_u201, mx_u203, mx_u204, mx_u205, mx_u206] <;> first | rfl | (split <;> rfl) | (split; rfl; split <;> rfl) | (split; rfl; split; rfl; split <;> rfl)
theorem x_op_copy {A J : mm_I} {f p t a m : Int32} : op_copy (mx A J) f p t a m = ((op_copy J f p t a m).1, mx A (op_copy J f p t a m).2) := by
  unfold op_copy
  simp only [mx_200, mx_201, mx_202, mx_203, mx_204, mx_205, mx_206, mx_207, mx_208, mx_210, mx_u200, mx_u201, mx_u203, mx_u204, mx_u205, mx_u206, mx_cpg (show 200 ≤ 206 by decide) (show 200 ≤ 213 by decide), mx_cpg (show 200 ≤ 213 by decide) (show 200 ≤ 206 by decide)] <;> first | rfl | (split <;> rfl) | (split; rfl; split <;> rfl) | (split; rfl; split; rfl; split <;> rfl)
theorem x_op_told {A J : mm_I} {w h n : Nat} {c k : Int32} : op_told w h n (mx A J) c k = op_told w h n J c k := rfl
theorem x_op_isOf {A J : mm_I} {w h : Nat} {c k : Int32} : op_isOf w h (mx A J) c k = op_isOf w h J c k := rfl
theorem x_op_map {A J : mm_I} {w h : Nat} {c k : Int32} : op_map w h (mx A J) c k = op_map w h J c k := rfl
theorem x_op_base {A J : mm_I} {k : Int32} : op_base (mx A J) k = op_base J k := rfl
theorem x_op_is {A J : mm_I} {n : Nat} {m k : Int32} : op_is n (mx A J) m k = op_is n J m k := rfl
theorem x_op_has {A J : mm_I} {n : Nat} {m k : Int32} : op_has n (mx A J) m k = op_has n J m k := rfl
theorem x_op_order {A J : mm_I} {o : Nat} {i k : Int32} : op_order o (mx A J) i k = op_order o J i k := rfl
theorem x_op_kilos {A J : mm_I} {w h n : Nat} {k : Int32} : op_kilos w h n (mx A J) k = op_kilos w h n J k := rfl
theorem x_op_night {A J : mm_I} {l : Nat} {n : Int32} : op_night l (mx A J) n = op_night l J n := rfl
theorem x_op_cut {A J : mm_I} {l : Nat} {n : Int32} : op_cut l (mx A J) n = op_cut l J n := rfl
theorem x_op_plan {A J : mm_I} {l k : Nat} {n tries : Int32} : op_plan l k (mx A J) n tries = op_plan l k J n tries := rfl
theorem x_op_planned {A J : mm_I} {l k : Nat} {n tries i : Int32} : op_planned l k (mx A J) n tries i = op_planned l k J n tries i := rfl
theorem x_op_check {A J : mm_I} {l k t : Nat} {x n : Int32} : op_check l k t (mx A J) x n = op_check l k t J x n := rfl
theorem x_op_count {A J : mm_I} {w h : Nat} {k : Int32} : op_count w h (mx A J) k = op_count w h J k := rfl
