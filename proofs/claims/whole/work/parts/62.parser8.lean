/-! THE CLASS: its reader's loop -/
def c_it (T : Nat → Int32) (t : Nat) : cS → cS
  | (ok, k, fr, st, Af, a, Sf, sn, Bf, bn) => if tK T t k = 125 ∧ 0 < bn ∧ fr = false then c_cl (tK T t) (ok, k, fr, st, Af, a, Sf, sn, Bf, bn) else c_on T t (ok, k, fr, st, Af, a, Sf, sn, Bf, bn)
abbrev c_ov (T : Nat → Int32) (t : Nat) (s : cS) : Prop := tK T t s.2.1 = 400 ∧ s.2.2.2.2.2.2.2.2.2 = 0 ∧ s.2.2.1 = false
def cl_run (T : Nat → Int32) (t : Nat) : Nat → cS → cS
  | 0, s => s
  | m + 1, s => if s.1 = true ∧ ¬ c_ov T t s then cl_run T t m (c_it T t s) else s
theorem cl_run_n {T : Nat → Int32} {t m : Nat} {s : cS} (h : ¬ (s.1 = true ∧ ¬ c_ov T t s)) : cl_run T t m s = s := by
  cases m with
  | zero => rfl
  | succ m => show (if s.1 = true ∧ ¬ c_ov T t s then _ else s) = s; rw [if_neg h]
theorem cl_run_y {T : Nat → Int32} {t m : Nat} {s : cS} (h : s.1 = true ∧ ¬ c_ov T t s) : cl_run T t (m + 1) s = cl_run T t m (c_it T t s) := by
  show (if s.1 = true ∧ ¬ c_ov T t s then cl_run T t m (c_it T t s) else s) = _
  rw [if_pos h]
/-- in order -/
def cI (T : Nat → Int32) (t W : Nat) : cS → Prop
  | (ok, k, _, _, _, a, _, sn, Bf, bn) => ok = true → k ≤ W ∧ sn ≤ k ∧ bn ≤ 4 ∧ 5 * a + 3 * bn ≤ 2 * (tq T t k).1 ∧ ∀ i, i < bn → ∃ x, Bf i = nI x ∧ x < a
theorem tq_nx {I : mm_I} {T : Nat → Int32} {t W k : Nat} (hB : tp_ok T t) (hWR : WR I T t W) (hk : k < W) : (tq T t k).2.1 ≤ (tq T t (k + 1)).1 ∧ (tq T t k).1 < (tq T t k).2.1 := tq_step hB (hWR.2.2.1 k hk).1
theorem c_op_I {I : mm_I} {T : Nat → Int32} {t W x : Nat} (hB : tp_ok T t) (hWR : WR I T t W) {ok : Bool} {k : Nat} {fr : Bool} {st : Nat} {Af : Nat → Int32} {a : Nat} {Sf : Nat → Int32} {sn : Nat} {Bf : Nat → Int32} {bn : Nat} (hx : x < a) (hk : k ≤ W) (hs : sn ≤ k) (hw : ok = true → 5 * a + 3 * (bn + 1) ≤ 2 * ((tq T t k).1 + 1)) (hb : ∀ i, i < bn → ∃ x, Bf i = nI x ∧ x < a) : cI T t W (c_op (tK T t) x (ok, k, fr, st, Af, a, Sf, sn, Bf, bn)) := by
  by_cases c : ok = true ∧ bn < 4 ∧ tK T t k = 123
  · rw [c_op_y c]
    intro _
    have hlt := WR_lt hWR hk (by omega) (by omega)
    have hst := tq_nx hB hWR hlt
    have := hw c.1
    refine ⟨hlt, by omega, by omega, by omega, fun i hi => ?_⟩
    by_cases e : i = bn
    · subst e; exact ⟨x, by unfold upd; rw [if_pos rfl], hx⟩
    · obtain ⟨y, hy, hy2⟩ := hb i (by omega)
      exact ⟨y, by unfold upd; rw [if_neg e]; exact hy, hy2⟩
  · rw [c_op_n c]
    intro h; exact absurd h (by decide)
theorem c_cl_I {I : mm_I} {T : Nat → Int32} {t W : Nat} (hB : tp_ok T t) (hWR : WR I T t W) {k : Nat} {fr : Bool} {st : Nat} {Af : Nat → Int32} {a : Nat} {Sf : Nat → Int32} {sn : Nat} {Bf : Nat → Int32} {bn : Nat} (h : cI T t W (true, k, fr, st, Af, a, Sf, sn, Bf, bn)) (h1 : tK T t k = 125) (h2 : 0 < bn) : cI T t W (c_cl (tK T t) (true, k, fr, st, Af, a, Sf, sn, Bf, bn)) := by
  obtain ⟨g1, g2, g3, g4, g5⟩ := h rfl
  have hlt := WR_lt hWR g1 (by omega) (by omega)
  have hst := tq_nx hB hWR hlt
  obtain ⟨x, hx, hxa⟩ := g5 (bn - 1) (by omega)
  show cI T t W (if Af (vv (Bf (bn - 1)) * 3) = 3 ∧ tK T t (k + 1) = 403 then c_op (tK T t) a (true, k + 1 + 1, fr, st, al (a3 Af a 12 0 0) (a + 1) (vv (Bf (bn - 1))), a + 1, Sf, sn, Bf, bn - 1) else if Af (vv (Bf (bn - 1)) * 3) = 4 ∨ Af (vv (Bf (bn - 1)) * 3) = 5 then (true, k + 1, fr, st, al (a3 Af a 12 0 (Bf (bn - 1))) (a + 1) (vv (Bf (bn - 1))), a + 1, Sf, sn, Bf, bn - 1) else (true, k + 1, fr, st, al Af a (vv (Bf (bn - 1))), a, Sf, sn, Bf, bn - 1))
  by_cases c : Af (vv (Bf (bn - 1)) * 3) = 3 ∧ tK T t (k + 1) = 403
  · rw [if_pos c]
    have hlt2 := WR_lt hWR (k := k + 1) (by omega) (by omega) (by omega)
    have hst2 := tq_nx hB hWR hlt2
    exact c_op_I hB hWR (by omega) (by omega) (by omega) (fun _ => by omega) (fun i hi => by obtain ⟨y, hy, hy2⟩ := g5 i (by omega); exact ⟨y, hy, by omega⟩)
  · rw [if_neg c]
    split
    · intro _
      exact ⟨hlt, by omega, by omega, by omega, fun i hi => by obtain ⟨y, hy, hy2⟩ := g5 i (by omega); exact ⟨y, hy, by omega⟩⟩
    · intro _
      exact ⟨hlt, by omega, by omega, by omega, fun i hi => g5 i (by omega)⟩
theorem rd_b {T : Nat → Int32} {t k c : Nat} {b : Bool} (h : (rd_ (tK T t) c b k).1 = true) : b = true ∧ tK T t k = c ∧ (rd_ (tK T t) c b k).2 = k + 1 := by
  unfold rd_ at h ⊢
  by_cases q : b = true ∧ tK T t k = c
  · rw [if_pos q] at h ⊢; exact ⟨q.1, q.2, rfl⟩
  · rw [if_neg q] at h; exact absurd h (by show ¬ (false = true); decide)
theorem c_on_I {I : mm_I} {T : Nat → Int32} {t W : Nat} (hB : tp_ok T t) (hWR : WR I T t W) {k : Nat} {fr : Bool} {st : Nat} {Af : Nat → Int32} {a : Nat} {Sf : Nat → Int32} {sn : Nat} {Bf : Nat → Int32} {bn : Nat} (h : cI T t W (true, k, fr, st, Af, a, Sf, sn, Bf, bn)) : cI T t W (c_on T t (true, k, fr, st, Af, a, Sf, sn, Bf, bn)) := by
  obtain ⟨g1, g2, g3, g4, g5⟩ := h rfl
  show cI T t W (if isW (tK T t k) then c_o T t (tK T t k - 300) (true, k + 1, false, st + 1, Af, a, Sf, sn, Bf, bn) else (false, k, fr, st, Af, a, Sf, sn, Bf, bn))
  by_cases cW : isW (tK T t k)
  · rw [if_pos cW]
    have hlt := WR_lt hWR g1 (by omega) (by omega)
    have hst := tq_nx hB hWR hlt
    have hw := (tK_word hB cW).2
    have hl := tx_4 (tK T t k - 300) (by omega)
    have ho : tK T t k - 300 < 11 := by omega
    generalize tK T t k - 300 = o at hw hl ho
    have hb1 : ∀ i, i < bn → ∃ x, Bf i = nI x ∧ x < a + 1 := fun i hi => by obtain ⟨y, hy, hy2⟩ := g5 i hi; exact ⟨y, hy, by omega⟩
    show cI T t W (if o = 0 then _ else if o = 10 then _ else if o = 7 then _ else if o = 8 then _ else if o = 9 then _ else _)
    by_cases c0 : o = 0
    · rw [if_pos c0]
      have l0 := hl.2.1 c0
      intro hok
      obtain ⟨b1, b2, b3⟩ := rd_b hok
      obtain ⟨e1, e2, e3⟩ := rd_b b1
      rw [e3] at b2 b3 ⊢
      have hlt1 := WR_lt hWR (k := k + 1) (by omega) (by omega) (by omega)
      have hst1 := tq_nx hB hWR hlt1
      have hlt2 := WR_lt hWR (k := k + 1 + 1) (by omega) (by omega) (by omega)
      have hst2 := tq_nx hB hWR hlt2
      rw [e3] at hok
      rw [b3]
      exact ⟨by omega, by omega, g3, by omega, hb1⟩
    rw [if_neg c0]
    by_cases c10 : o = 10
    · rw [if_pos c10]
      have l0 := hl.2.2.2.2.2 c10
      have hw1 := rd_W (b := true) (c := 401) (k := k + 1) hWR (by omega) ⟨by decide, by decide⟩
      refine c_op_I hB hWR (by omega) hw1.1 (by omega) (fun hok => ?_) (fun i hi => by obtain ⟨y, hy, hy2⟩ := g5 i hi; exact ⟨y, hy, by omega⟩)
      obtain ⟨b1, b2, b3⟩ := rd_b hok
      have hlt1 := WR_lt hWR (k := k + 1) (by omega) (by omega) (by omega)
      have hst1 := tq_nx hB hWR hlt1
      rw [b3]; omega
    rw [if_neg c10]
    have hg := px_good (K := tK T t) (V := tV T t) 70 0 0 0 (k + 1)
    have hle := px_W (F := 70) (l := 0) (pr := 0) (ns := 0) (k := k + 1) hWR (by omega)
    obtain ⟨q1, q2, q3, q4⟩ := hg
    have hpos : (px (tK T t) (tV T t) 70 0 0 0 (k + 1)).1 = true → (tq T t (k + 1)).1 + 1 ≤ (tq T t (px (tK T t) (tV T t) 70 0 0 0 (k + 1)).2.1).1 := fun hh => by
      have h5 := q4 hh
      have hs1 := tq_step hB (q2 (k + 1) (Nat.le_refl _) h5)
      have := tq_le (T := T) (t := t) (show k + 1 + 1 ≤ (px (tK T t) (tV T t) 70 0 0 0 (k + 1)).2.1 by omega)
      omega
    have hmo := tq_le (T := T) (t := t) q1
    by_cases c7 : o = 7
    · rw [if_pos c7]
      have l0 := hl.2.2.1 c7
      intro hok
      exact ⟨hle, by omega, g3, by omega, hb1⟩
    rw [if_neg c7]
    by_cases c8 : o = 8
    · rw [if_pos c8]
      have l0 := hl.2.2.2.1 c8
      exact c_op_I hB hWR (by omega) hle (by omega) (fun hok => by have := hpos hok; omega) hb1
    rw [if_neg c8]
    by_cases c9 : o = 9
    · rw [if_pos c9]
      have l0 := hl.2.2.2.2.1 c9
      exact c_op_I hB hWR (by omega) hle (by omega) (fun hok => by have := hpos hok; omega) hb1
    rw [if_neg c9]
    by_cases c11 : o ≤ 6
    · have l0 := hl.1 (by omega) c11
      intro _
      exact ⟨hlt, by omega, g3, by omega, hb1⟩
    · exfalso; omega
  · rw [if_neg cW]
    intro h; exact absurd h (by decide)
theorem c_it_I {I : mm_I} {T : Nat → Int32} {t W : Nat} (hB : tp_ok T t) (hWR : WR I T t W) {s : cS} (h : cI T t W s) (hs : s.1 = true) : cI T t W (c_it T t s) := by
  obtain ⟨ok, k, fr, st, Af, a, Sf, sn, Bf, bn⟩ := s
  replace hs : ok = true := hs
  subst hs
  show cI T t W (if tK T t k = 125 ∧ 0 < bn ∧ fr = false then c_cl (tK T t) (true, k, fr, st, Af, a, Sf, sn, Bf, bn) else c_on T t (true, k, fr, st, Af, a, Sf, sn, Bf, bn))
  by_cases c : tK T t k = 125 ∧ 0 < bn ∧ fr = false
  · rw [if_pos c]; exact c_cl_I hB hWR h c.1 c.2.1
  · rw [if_neg c]; exact c_on_I hB hWR h
set_option maxRecDepth 100000 in
set_option maxHeartbeats 600000 in
theorem cp_over {g : mm_G} {d : Nat} {I : mm_I} {T : Nat → Int32} {t : Nat} {k : Nat} {fr : Bool} {st : Nat} {Af : Nat → Int32} {a : Nat} {Sf : Nat → Int32} {sn : Nat} {Bf : Nat → Int32} {bn : Nat} (hB : tp_ok T t) (hbn : bn ≤ 4) (hd : 1 ≤ d) : mm_Ci g zX2_isOver d [.ref 176] sh_S (cz I T t true k fr st Af (3 * a) Sf sn Bf bn) (if (tK T t k = 400 ∧ bn = 0 ∧ fr = false) then 1 else 0) (cz I T t true k fr st Af (3 * a) Sf sn Bf bn) := by
  have hrg := ckd_i (tK_rng (k := k) hB)
  refine mm_Ci_of (fun Q hq => ?_)
  refine mm_begin (ls := [(0, .ref 176)]) (Nat.le_of_ble_eq_true rfl) rfl rfl ?_
  refine mm_aload_n 0 dX2_isOver_0 rfl rfl ?_
  refine mm_geti dX2_isOver_1 rfl fk_X2_59 rfl so_176 ?_
  refine mm_top (v := ckd (tK T t k)) rfl ?_
  refine mm_bipush (v := -101) dX2_isOver_4 rfl ?_
  refine mm_icmp_ne (tgt := 30) dX2_isOver_6 (by decide) (fun c6 => ?_) (fun c6 => ?_)
  · refine mm_iconst (v := 0) dX2_isOver_30 rfl ?_
    refine mm_zret dX2_isOver_31 rfl (by decide) ⟨Nat.le_refl _, Nat.le_refl _⟩ ?_
    rw [if_neg (show ¬ (tK T t k = 400 ∧ bn = 0 ∧ fr = false) by rintro ⟨q1, q2, q3⟩; first | exact c6 (hrg.2.2.2.2.2.2.2.1.mpr q1) | omega | (rw [q3] at c23; exact absurd c23 (by decide)))] at hq
    exact hq
  · refine mm_aload_n 0 dX2_isOver_9 rfl rfl ?_
    refine mm_getr (b := 189) dX2_isOver_10 rfl fk_X2_32 rfl so_176 sr_176_2 ?_
    refine mm_cV0i (dz := d - 1) dX2_isOver_13 rfl mzX5_size ml_X2_69 imX5_size (by omega) so_189 ⟨rfl, rfl⟩ (ct_size rw_189) (Nat.le_of_ble_eq_true rfl) ⟨Nat.le_refl _, Nat.le_refl _⟩ ?_
    refine mm_top (v := nI (bn)) rfl ?_
    refine mm_if_neN (bn) (tgt := 30) dX2_isOver_16 (by decide) (by omega) (fun c16 => ?_) (fun c16 => ?_)
    · refine mm_iconst (v := 0) dX2_isOver_30 rfl ?_
      refine mm_zret dX2_isOver_31 rfl (by decide) ⟨Nat.le_refl _, Nat.le_refl _⟩ ?_
      rw [if_neg (show ¬ (tK T t k = 400 ∧ bn = 0 ∧ fr = false) by rintro ⟨q1, q2, q3⟩; first | exact c6 (hrg.2.2.2.2.2.2.2.1.mpr q1) | omega | (rw [q3] at c23; exact absurd c23 (by decide)))] at hq
      exact hq
    · refine mm_aload_n 0 dX2_isOver_19 rfl rfl ?_
      refine mm_geti dX2_isOver_20 rfl fk_X2_45 rfl so_176 ?_
      refine mm_top (v := if fr = true then 1 else 0) rfl ?_
      refine mm_if_neB (tgt := 30) dX2_isOver_23 (by decide) (fun c23 => ?_) (fun c23 => ?_)
      · refine mm_iconst (v := 0) dX2_isOver_30 rfl ?_
        refine mm_zret dX2_isOver_31 rfl (by decide) ⟨Nat.le_refl _, Nat.le_refl _⟩ ?_
        rw [if_neg (show ¬ (tK T t k = 400 ∧ bn = 0 ∧ fr = false) by rintro ⟨q1, q2, q3⟩; first | exact c6 (hrg.2.2.2.2.2.2.2.1.mpr q1) | omega | (rw [q3] at c23; exact absurd c23 (by decide)))] at hq
        exact hq
      · refine mm_iconst (v := 1) dX2_isOver_26 rfl ?_
        refine mm_goto (tgt := 31) dX2_isOver_27 (by decide) ?_
        refine mm_zret dX2_isOver_31 rfl (by decide) ⟨Nat.le_refl _, Nat.le_refl _⟩ ?_
        rw [if_pos (show (tK T t k = 400 ∧ bn = 0 ∧ fr = false) from ⟨hrg.2.2.2.2.2.2.2.1.mp c6, by omega, Bool.eq_false_iff.mpr c23⟩)] at hq
        exact hq
set_option maxRecDepth 100000 in
set_option maxHeartbeats 600000 in
theorem lp_read {g : mm_G} {d : Nat} {I : mm_I} {T : Nat → Int32} {t W : Nat} (hB : tp_ok T t) (hWR : WR I T t W) {Q : Option Value → mm_Sh → mm_I → Prop} (hd : 151 ≤ d) : ∀ (m n : Nat) (s : cS), n + m = 97 → cI T t W s → Q (some (.int (if (cl_run T t m s).1 = true then -1 else nI (tq T t (cl_run T t m s).2.1).1))) sh_S (cZ I T t (cl_run T t m s)) → mm_Ex g zX2_read d (0, 0) (0, 0) sh_S (cZ I T t s) 54 [(1, .int (nI n)), (0, .ref 176)] [] Q := by
  have hW := hWR.1
  intro m
  induction m with
  | zero =>
    rintro n ⟨ok, k, fr, st, Af, a, Sf, sn, Bf, bn⟩ hn hI hq
    have htq := tq_good T t k
    have ht9 := hB.1
    obtain ⟨hq1, hq2, -⟩ := id htq
    refine mm_mem (J := cz I T t ok k fr st Af (3 * a) Sf sn Bf bn) rfl ?_
    refine mm_iload_n 0 dX2_read_54 rfl rfl ?_
    refine mm_bipush (v := 96) dX2_read_55 rfl ?_
    refine mm_icmp_gtN (n) (96) (tgt := 117) dX2_read_57 (by decide) (by omega) (by omega) (fun c57 => ?_) (fun c57 => ?_)
    · refine mm_aload_n 1 dX2_read_117 rfl rfl ?_
      refine mm_geti dX2_read_118 rfl fk_X2_62 rfl so_176 ?_
      refine mm_top (v := if ok = true then -1 else nI (tq T t k).1) rfl ?_
      refine mm_iret dX2_read_121 rfl ⟨Nat.le_refl _, Nat.le_refl _⟩ ?_
      exact hq
    · omega
  | succ m ih =>
    rintro n ⟨ok, k, fr, st, Af, a, Sf, sn, Bf, bn⟩ hn hI hq
    have htq := tq_good T t k
    have ht9 := hB.1
    obtain ⟨hq1, hq2, -⟩ := id htq
    have hrg := ckd_i (tK_rng (k := k) hB)
    cases ok with
    | false =>
      rw [cl_run_n (by rintro ⟨q, -⟩; exact absurd (show false = true from q) (by decide))] at hq
      refine mm_mem (J := cz I T t false k fr st Af (3 * a) Sf sn Bf bn) rfl ?_
      refine mm_iload_n 0 dX2_read_54 rfl rfl ?_
      refine mm_bipush (v := 96) dX2_read_55 rfl ?_
      refine mm_icmp_gtN (n) (96) (tgt := 117) dX2_read_57 (by decide) (by omega) (by omega) (fun c57 => ?_) (fun c57 => ?_)
      · refine mm_aload_n 1 dX2_read_117 rfl rfl ?_
        refine mm_geti dX2_read_118 rfl fk_X2_62 rfl so_176 ?_
        refine mm_top (v := nI ((tq T t k).1)) rfl ?_
        refine mm_iret dX2_read_121 rfl ⟨Nat.le_refl _, Nat.le_refl _⟩ ?_
        exact hq
      · refine mm_aload_n 1 dX2_read_60 rfl rfl ?_
        refine mm_geti dX2_read_61 rfl fk_X2_62 rfl so_176 ?_
        refine mm_top (v := nI ((tq T t k).1)) rfl ?_
        refine mm_if_geN ((tq T t k).1) (tgt := 117) dX2_read_64 (by decide) (by omega) ?_
        refine mm_aload_n 1 dX2_read_117 rfl rfl ?_
        refine mm_geti dX2_read_118 rfl fk_X2_62 rfl so_176 ?_
        refine mm_top (v := nI ((tq T t k).1)) rfl ?_
        refine mm_iret dX2_read_121 rfl ⟨Nat.le_refl _, Nat.le_refl _⟩ ?_
        exact hq
    | true =>
      obtain ⟨g1, g2, g3, g4, g5⟩ := hI rfl
      by_cases cv : (tK T t k = 400 ∧ bn = 0 ∧ fr = false)
      · rw [cl_run_n (fun q => q.2 cv)] at hq
        refine mm_mem (J := cz I T t true k fr st Af (3 * a) Sf sn Bf bn) rfl ?_
        refine mm_iload_n 0 dX2_read_54 rfl rfl ?_
        refine mm_bipush (v := 96) dX2_read_55 rfl ?_
        refine mm_icmp_gtN (n) (96) (tgt := 117) dX2_read_57 (by decide) (by omega) (by omega) (fun c57 => ?_) (fun c57 => ?_)
        · refine mm_aload_n 1 dX2_read_117 rfl rfl ?_
          refine mm_geti dX2_read_118 rfl fk_X2_62 rfl so_176 ?_
          refine mm_top (v := -1) rfl ?_
          refine mm_iret dX2_read_121 rfl ⟨Nat.le_refl _, Nat.le_refl _⟩ ?_
          exact hq
        · refine mm_aload_n 1 dX2_read_60 rfl rfl ?_
          refine mm_geti dX2_read_61 rfl fk_X2_62 rfl so_176 ?_
          refine mm_top (v := -1) rfl ?_
          refine mm_if_ge (tgt := 117) dX2_read_64 (by decide) (fun q => absurd q (by decide)) (fun _ => ?_)
          refine mm_aload_n 1 dX2_read_67 rfl rfl ?_
          refine mm_cV0i (dz := d - 1) dX2_read_68 rfl mzX2_isOver ml_X2_65 imX2_isOver (by omega) so_176 ⟨rfl, rfl⟩ (cp_over hB g3 (by omega)) (Nat.le_of_ble_eq_true rfl) ⟨Nat.le_refl _, Nat.le_refl _⟩ ?_
          refine mm_if_neB (tgt := 117) dX2_read_71 (by decide) (fun c71 => ?_) (fun c71 => ?_)
          · refine mm_aload_n 1 dX2_read_117 rfl rfl ?_
            refine mm_geti dX2_read_118 rfl fk_X2_62 rfl so_176 ?_
            refine mm_top (v := -1) rfl ?_
            refine mm_iret dX2_read_121 rfl ⟨Nat.le_refl _, Nat.le_refl _⟩ ?_
            exact hq
          · exact absurd cv c71
      · rw [cl_run_y ⟨rfl, cv⟩] at hq
        have hI2 := c_it_I hB hWR hI rfl
        by_cases cc : tK T t k = 125 ∧ 0 < bn ∧ fr = false
        · have e : c_it T t (true, k, fr, st, Af, a, Sf, sn, Bf, bn) = c_cl (tK T t) (true, k, fr, st, Af, a, Sf, sn, Bf, bn) := by
            show (if tK T t k = 125 ∧ 0 < bn ∧ fr = false then _ else _) = _
            rw [if_pos cc]
          rw [e] at hq hI2
          obtain ⟨b, rfl⟩ : ∃ b, bn = b + 1 := ⟨bn - 1, by omega⟩
          obtain ⟨x, hx, hxa⟩ := g5 b (by omega)
          have hlt := WR_lt hWR g1 (by omega) (by omega)
          refine mm_mem (J := cz I T t true k fr st Af (3 * a) Sf sn Bf (b + 1)) rfl ?_
          refine mm_iload_n 0 dX2_read_54 rfl rfl ?_
          refine mm_bipush (v := 96) dX2_read_55 rfl ?_
          refine mm_icmp_gtN (n) (96) (tgt := 117) dX2_read_57 (by decide) (by omega) (by omega) (fun c57 => ?_) (fun c57 => ?_)
          · first | omega | exact absurd c71 cv
          · refine mm_aload_n 1 dX2_read_60 rfl rfl ?_
            refine mm_geti dX2_read_61 rfl fk_X2_62 rfl so_176 ?_
            refine mm_top (v := -1) rfl ?_
            refine mm_if_ge (tgt := 117) dX2_read_64 (by decide) (fun q => absurd q (by decide)) (fun _ => ?_)
            refine mm_aload_n 1 dX2_read_67 rfl rfl ?_
            refine mm_cV0i (dz := d - 1) dX2_read_68 rfl mzX2_isOver ml_X2_65 imX2_isOver (by omega) so_176 ⟨rfl, rfl⟩ (cp_over (bn := b + 1) hB g3 (by omega)) (Nat.le_of_ble_eq_true rfl) ⟨Nat.le_refl _, Nat.le_refl _⟩ ?_
            refine mm_if_neB (tgt := 117) dX2_read_71 (by decide) (fun c71 => ?_) (fun c71 => ?_)
            · first | omega | exact absurd c71 cv
            · refine mm_aload_n 1 dX2_read_74 rfl rfl ?_
              refine mm_geti dX2_read_75 rfl fk_X2_59 rfl so_176 ?_
              refine mm_top (v := ckd (tK T t k)) rfl ?_
              refine mm_bipush (v := 125) dX2_read_78 rfl ?_
              refine mm_icmp_ne (tgt := 107) dX2_read_80 (by decide) (fun c80 => ?_) (fun c80 => ?_)
              · first | exact absurd (hrg.2.2.2.2.2.2.1.mpr cc.1) c80 | omega | (rw [cc.2.2] at c97; exact absurd c97 (by decide))
              · refine mm_aload_n 1 dX2_read_83 rfl rfl ?_
                refine mm_getr (b := 189) dX2_read_84 rfl fk_X2_32 rfl so_176 sr_176_2 ?_
                refine mm_cV0i (dz := d - 1) dX2_read_87 rfl mzX5_size ml_X2_69 imX5_size (by omega) so_189 ⟨rfl, rfl⟩ (ct_size rw_189) (Nat.le_of_ble_eq_true rfl) ⟨Nat.le_refl _, Nat.le_refl _⟩ ?_
                refine mm_top (v := nI ((b + 1))) rfl ?_
                refine mm_if_leN ((b + 1)) (tgt := 107) dX2_read_90 (by decide) (by omega) (fun c90 => ?_) (fun c90 => ?_)
                · first | exact absurd (hrg.2.2.2.2.2.2.1.mpr cc.1) c80 | omega | (rw [cc.2.2] at c97; exact absurd c97 (by decide))
                · refine mm_aload_n 1 dX2_read_93 rfl rfl ?_
                  refine mm_geti dX2_read_94 rfl fk_X2_45 rfl so_176 ?_
                  refine mm_top (v := if fr = true then 1 else 0) rfl ?_
                  refine mm_if_neB (tgt := 107) dX2_read_97 (by decide) (fun c97 => ?_) (fun c97 => ?_)
                  · first | exact absurd (hrg.2.2.2.2.2.2.1.mpr cc.1) c80 | omega | (rw [cc.2.2] at c97; exact absurd c97 (by decide))
                  · refine mm_aload_n 1 dX2_read_100 rfl rfl ?_
                    refine mm_cV0v (dz := d - 1) dX2_read_101 rfl mzX2_closeBlock ml_X2_73 imX2_closeBlock (by omega) so_176 ⟨rfl, rfl⟩ (cp_close hB hWR hx hxa (by omega) hlt (by omega) (by omega)) (Nat.le_of_ble_eq_true rfl) ⟨Nat.le_refl _, Nat.le_refl _⟩ ?_
                    refine mm_goto (tgt := 111) dX2_read_104 (by decide) ?_
                    refine mm_iincN (ls' := [(1, .int (nI (n + 1))), (0, .ref 176)]) 0 (n) 1 dX2_read_111 rfl rfl (by decide) rfl ?_
                    refine mm_goto (tgt := 54) dX2_read_114 (by decide) ?_
                    exact ih (n + 1) _ (by omega) hI2 hq
        · have e : c_it T t (true, k, fr, st, Af, a, Sf, sn, Bf, bn) = c_on T t (true, k, fr, st, Af, a, Sf, sn, Bf, bn) := by
            show (if tK T t k = 125 ∧ 0 < bn ∧ fr = false then _ else _) = _
            rw [if_neg cc]
          rw [e] at hq hI2
          refine mm_mem (J := cz I T t true k fr st Af (3 * a) Sf sn Bf bn) rfl ?_
          refine mm_iload_n 0 dX2_read_54 rfl rfl ?_
          refine mm_bipush (v := 96) dX2_read_55 rfl ?_
          refine mm_icmp_gtN (n) (96) (tgt := 117) dX2_read_57 (by decide) (by omega) (by omega) (fun c57 => ?_) (fun c57 => ?_)
          · first | omega | exact absurd c71 cv
          · refine mm_aload_n 1 dX2_read_60 rfl rfl ?_
            refine mm_geti dX2_read_61 rfl fk_X2_62 rfl so_176 ?_
            refine mm_top (v := -1) rfl ?_
            refine mm_if_ge (tgt := 117) dX2_read_64 (by decide) (fun q => absurd q (by decide)) (fun _ => ?_)
            refine mm_aload_n 1 dX2_read_67 rfl rfl ?_
            refine mm_cV0i (dz := d - 1) dX2_read_68 rfl mzX2_isOver ml_X2_65 imX2_isOver (by omega) so_176 ⟨rfl, rfl⟩ (cp_over hB g3 (by omega)) (Nat.le_of_ble_eq_true rfl) ⟨Nat.le_refl _, Nat.le_refl _⟩ ?_
            refine mm_if_neB (tgt := 117) dX2_read_71 (by decide) (fun c71 => ?_) (fun c71 => ?_)
            · first | omega | exact absurd c71 cv
            · refine mm_aload_n 1 dX2_read_74 rfl rfl ?_
              refine mm_geti dX2_read_75 rfl fk_X2_59 rfl so_176 ?_
              refine mm_top (v := ckd (tK T t k)) rfl ?_
              refine mm_bipush (v := 125) dX2_read_78 rfl ?_
              refine mm_icmp_ne (tgt := 107) dX2_read_80 (by decide) (fun c80 => ?_) (fun c80 => ?_)
              · refine mm_aload_n 1 dX2_read_107 rfl rfl ?_
                refine mm_cV0v (dz := d - 1) dX2_read_108 rfl mzX2_readOne ml_X2_76 imX2_readOne (by omega) so_176 ⟨rfl, rfl⟩ (cp_one hB hWR g1 g2 g3 (by omega) (by omega)) (Nat.le_of_ble_eq_true rfl) ⟨Nat.le_refl _, Nat.le_refl _⟩ ?_
                refine mm_iincN (ls' := [(1, .int (nI (n + 1))), (0, .ref 176)]) 0 (n) 1 dX2_read_111 rfl rfl (by decide) rfl ?_
                refine mm_goto (tgt := 54) dX2_read_114 (by decide) ?_
                exact ih (n + 1) _ (by omega) hI2 hq
              · refine mm_aload_n 1 dX2_read_83 rfl rfl ?_
                refine mm_getr (b := 189) dX2_read_84 rfl fk_X2_32 rfl so_176 sr_176_2 ?_
                refine mm_cV0i (dz := d - 1) dX2_read_87 rfl mzX5_size ml_X2_69 imX5_size (by omega) so_189 ⟨rfl, rfl⟩ (ct_size rw_189) (Nat.le_of_ble_eq_true rfl) ⟨Nat.le_refl _, Nat.le_refl _⟩ ?_
                refine mm_top (v := nI (bn)) rfl ?_
                refine mm_if_leN (bn) (tgt := 107) dX2_read_90 (by decide) (by omega) (fun c90 => ?_) (fun c90 => ?_)
                · refine mm_aload_n 1 dX2_read_107 rfl rfl ?_
                  refine mm_cV0v (dz := d - 1) dX2_read_108 rfl mzX2_readOne ml_X2_76 imX2_readOne (by omega) so_176 ⟨rfl, rfl⟩ (cp_one hB hWR g1 g2 g3 (by omega) (by omega)) (Nat.le_of_ble_eq_true rfl) ⟨Nat.le_refl _, Nat.le_refl _⟩ ?_
                  refine mm_iincN (ls' := [(1, .int (nI (n + 1))), (0, .ref 176)]) 0 (n) 1 dX2_read_111 rfl rfl (by decide) rfl ?_
                  refine mm_goto (tgt := 54) dX2_read_114 (by decide) ?_
                  exact ih (n + 1) _ (by omega) hI2 hq
                · refine mm_aload_n 1 dX2_read_93 rfl rfl ?_
                  refine mm_geti dX2_read_94 rfl fk_X2_45 rfl so_176 ?_
                  refine mm_top (v := if fr = true then 1 else 0) rfl ?_
                  refine mm_if_neB (tgt := 107) dX2_read_97 (by decide) (fun c97 => ?_) (fun c97 => ?_)
                  · refine mm_aload_n 1 dX2_read_107 rfl rfl ?_
                    refine mm_cV0v (dz := d - 1) dX2_read_108 rfl mzX2_readOne ml_X2_76 imX2_readOne (by omega) so_176 ⟨rfl, rfl⟩ (cp_one hB hWR g1 g2 g3 (by omega) (by omega)) (Nat.le_of_ble_eq_true rfl) ⟨Nat.le_refl _, Nat.le_refl _⟩ ?_
                    refine mm_iincN (ls' := [(1, .int (nI (n + 1))), (0, .ref 176)]) 0 (n) 1 dX2_read_111 rfl rfl (by decide) rfl ?_
                    refine mm_goto (tgt := 54) dX2_read_114 (by decide) ?_
                    exact ih (n + 1) _ (by omega) hI2 hq
                  · exact absurd ⟨hrg.2.2.2.2.2.2.1.mp c80, by omega, Bool.eq_false_iff.mpr c97⟩ cc
