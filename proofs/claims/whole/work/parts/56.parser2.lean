/-! THE CLASS: its reader, small steps -/
def cs_ (c : Nat) : Int32 := if c < 10000 then nI c else if c < 20000 then - (mm_sx 12).getD (c - 10000) 0 else if c = 30000 then -1 else - (mm_sx 13).getD (c - 20000) 0
def apl (f : Nat → Int32) (n : Nat) : List Nat → Nat → Int32
  | [] => f
  | c :: cs => apl (upd f n (cs_ c)) (n + 1) cs
theorem apl_app {a b : List Nat} : ∀ {f : Nat → Int32} {n : Nat}, apl f n (a ++ b) = apl (apl f n a) (n + a.length) b := by
  induction a with
  | nil => intro f n; rfl
  | cons c cs ih =>
    intro f n
    show apl (upd f n (cs_ c)) (n + 1) (cs ++ b) = apl (apl (upd f n (cs_ c)) (n + 1) cs) (n + (cs.length + 1)) b
    rw [ih, show n + 1 + cs.length = n + (cs.length + 1) by omega]
theorem cs_sg {x : Nat} (h : lo x < 5) : - ckd x = cs_ (20000 + si x) := by
  have hx : x < 125 := by unfold lo at h; revert h; (repeat' split) <;> omega
  have hh : ∀ x, x < 125 → lo x < 5 → - ckd x = cs_ (20000 + si x) := by decide +kernel
  exact hh x hx h
theorem px_lp_nb {K : Nat → Nat} {nxt : Nat → Bool × Nat × List Nat} (hn : ∀ k j, k ≤ j → j < (nxt k).2.1 → ¬ K j = 404) {l k : Nat} (hl : l < 5) : ∀ m r, (∀ j, k ≤ j → j < r.2.1 → ¬ K j = 404) → ∀ j, k ≤ j → j < (px_lp K nxt l m r).2.1 → ¬ K j = 404 := by
  intro m
  induction m with
  | zero => intro r h; exact h
  | succ m ih =>
    intro r h
    unfold px_lp
    by_cases c : r.1 = true ∧ lo (K r.2.1) = l
    · rw [if_pos c]
      apply ih
      intro j h1 h2
      replace h2 : j < (nxt (r.2.1 + 1)).2.1 := h2
      by_cases e1 : j < r.2.1
      · exact h j h1 e1
      · by_cases e2 : j = r.2.1
        · subst e2; intro q; have := c.2; rw [q] at this; exact absurd this (by show ¬ lo 404 = l; rw [show lo 404 = 5 from rfl]; omega)
        · exact hn (r.2.1 + 1) j (by omega) h2
    · rw [if_neg c]; exact h
theorem px_nb {K V : Nat → Nat} : ∀ F l pr ns k j, k ≤ j → j < (px K V F l pr ns k).2.1 → ¬ K j = 404 := by
  intro F
  induction F with
  | zero => intro l pr ns k j h1 h2; exact absurd h2 (by show ¬ j < k; omega)
  | succ F ih =>
    intro l pr ns k j h1
    unfold px
    by_cases c1 : l < 5
    · rw [if_pos c1]; exact px_lp_nb (fun k => ih (l + 1) pr ns k) c1 _ _ (fun j h1 h2 => ih (l + 1) pr ns k j h1 h2) j h1
    · rw [if_neg c1]
      have go : ∀ (e : Nat), (¬ K k = 404) → (k + 1 ≤ j → j < e → ¬ K j = 404) → j < e → ¬ K j = 404 := fun e a b c => by
        by_cases q : j = k
        · subst q; exact a
        · exact b (by omega) c
      by_cases c2 : K k = 401 ∨ K k = 402
      · rw [if_pos c2]; exact go (k + 1) (by omega) (fun a b => by omega)
      · rw [if_neg c2]
        by_cases c3 : K k = 33 ∧ ns < 8
        · rw [if_pos c3]; exact go _ (by omega) (fun a b => ih 5 pr (ns + 1) (k + 1) j a b)
        · rw [if_neg c3]
          by_cases c4 : K k = 40 ∧ pr < 8
          · rw [if_pos c4]
            have hh := ih 0 (pr + 1) ns (k + 1) j
            have hg := (px_good (K := K) (V := V) F 0 (pr + 1) ns (k + 1)).1
            generalize px K V F 0 (pr + 1) ns (k + 1) = r at hh hg
            unfold px_b
            by_cases c5 : r.1 = true ∧ K r.2.1 = 41
            · rw [if_pos c5]
              refine go _ (by omega) (fun a b => ?_)
              replace b : j < r.2.1 + 1 := b
              by_cases q : j = r.2.1
              · subst q; omega
              · exact hh a (by omega)
            · rw [if_neg c5]; exact go _ (by omega) hh
          · rw [if_neg c4]; exact fun h2 => absurd h2 (by show ¬ j < k; omega)
theorem px_W {I : mm_I} {T : Nat → Int32} {t W F l pr ns k : Nat} (hWR : WR I T t W) (hk : k ≤ W) : (px (tK T t) (tV T t) F l pr ns k).2.1 ≤ W := by
  have h1 := (px_good (K := tK T t) (V := tV T t) F l pr ns k).2.1
  have h2 := px_nb (K := tK T t) (V := tV T t) F l pr ns k
  by_cases c : (px (tK T t) (tV T t) F l pr ns k).2.1 ≤ W
  · exact c
  · exfalso
    rcases hWR.2.1 with q | q
    · exact h1 W hk (by omega) q
    · exact h2 W hk (by omega) q
theorem WR_lt {I : mm_I} {T : Nat → Int32} {t W k : Nat} (hWR : WR I T t W) (hk : k ≤ W) (h1 : ¬ tK T t k = 400) (h2 : ¬ tK T t k = 404) : k < W := by
  by_cases e : k = W
  · subst e; rcases hWR.2.1 with q | q; exact absurd q h1; exact absurd q h2
  · omega
theorem cv_num {T : Nat → Int32} {t k : Nat} (hB : tp_ok T t) (h : tK T t k = 401) : cv T t (tq T t k) = nI (tV T t k) := by
  have hs := (tK_401 hB).mp h
  have hk := tq_good T t k
  obtain ⟨h1, h2, h3, h4, h5, h6⟩ := id hk
  have hlt := h5 (by omega)
  obtain ⟨hl, hd⟩ := h6 hs
  have hD := hd (tq T t k).1 (Nat.le_refl _) hlt
  have hL : ¬ tk_L T t (tq T t k).1 := fun q => absurd (Int32.le_trans q.2.1 hD.2.2) (by decide)
  show cv T t (tq T t k) = nI (tkv T (tq T t k))
  unfold cv tkv
  rw [if_neg hL, if_pos hD, if_pos hs]
  have key : ∀ n, n ≤ (tq T t k).2.1 - (tq T t k).1 → nvi T (tq T t k).1 n = nI (nvl T (tq T t k).1 n) := fun n => by
    induction n with
    | zero => intro _; rfl
    | succ n ih =>
      intro hn
      obtain ⟨b, hb, eb⟩ := sp_wi_n (v := T ((tq T t k).1 + n)) 48 57 (by decide) (by decide) (hd ((tq T t k).1 + n) (by omega) (by omega)).2
      unfold nvi nvl
      rw [ih (by omega), eb, vv_nI (by omega), show (10 : Int32) = nI 10 from rfl, pk_mul, nI_add, show nvl T (tq T t k).1 n * 10 + b = (10 * nvl T (tq T t k).1 n + (b - 48)) + 48 by omega, ← nI_add, show (48 : Int32) = nI 48 from rfl, Int32.add_sub_cancel]
  exact key _ (Nat.le_refl _)
theorem cv_nm {T : Nat → Int32} {t k : Nat} (hB : tp_ok T t) (h : tK T t k = 402) : - cv T t (tq T t k) = cs_ (tV T t k) := by
  obtain ⟨hs1, hs2, hs3⟩ := (tK_402 hB).mp h
  have hk := tq_good T t k
  have hlt := hk.2.2.2.2.1 (by omega)
  have h2 := hk.2.1
  obtain ⟨b, hb, eb⟩ := hB.2 (tq T t k).1 (by omega)
  rw [eb, vv_nI (by omega)] at hs3
  have hh : ∀ b, b < 256 → 0 ≤ nm_ix b → (97 ≤ nI b ∧ nI b ≤ 122) ∧ - nI b = cs_ (10000 + vv (nm_ix b)) := by decide +kernel
  have := hh b hb hs3
  show - cv T t (tq T t k) = cs_ (tkv T (tq T t k))
  unfold cv tkv
  rw [if_pos ⟨by omega, by rw [eb]; exact this.1.1, by rw [eb]; exact this.1.2⟩, if_neg (by omega), eb, vv_nI (by omega)]
  exact this.2
set_option maxRecDepth 100000 in
set_option maxHeartbeats 600000 in
theorem cp_adv {g : mm_G} {d : Nat} {I : mm_I} {T : Nat → Int32} {t : Nat} {k : Nat} {fr : Bool} {st : Nat} {Af : Nat → Int32} {an : Nat} {Sf : Nat → Int32} {sn : Nat} {Bf : Nat → Int32} {bn : Nat} {W : Nat} (hB : tp_ok T t) (hWR : WR I T t W) (hk : k < W) (hd : 1 ≤ d) : mm_Cv g zX2_advance d [.ref 176] sh_S (cz I T t true k fr st Af an Sf sn Bf bn) (cz I T t true (k + 1) fr st Af an Sf sn Bf bn) := by
  have hW := hWR.1
  refine mm_Cv_of (fun Q hq => ?_)
  refine mm_begin (ls := [(0, .ref 176)]) (Nat.le_of_ble_eq_true rfl) rfl rfl ?_
  refine mm_aload_n 0 dX2_advance_0 rfl rfl ?_
  refine mm_dup dX2_advance_1 rfl ?_
  refine mm_geti dX2_advance_2 rfl fk_X2_49 rfl so_176 ?_
  refine mm_top (v := nI (k)) rfl ?_
  refine mm_iconst (v := 1) dX2_advance_5 rfl ?_
  refine mm_iaddN (k) (1) dX2_advance_6 ?_
  refine mm_puti dX2_advance_7 rfl fk_X2_49 rfl fv_2_4 so_176 ?_
  refine mm_aload_n 0 dX2_advance_10 rfl rfl ?_
  refine mm_aload_n 0 dX2_advance_11 rfl rfl ?_
  refine mm_at (pc' := 12) rfl ?_
  refine mm_getr (b := 177) dX2_advance_12 rfl fk_X2_14 rfl so_176 sr_176_0 ?_
  refine mm_getr (b := 178) dX2_advance_15 rfl fk_X2_53 rfl so_177 sr_177_1 ?_
  refine mm_aload_n 0 dX2_advance_18 rfl rfl ?_
  refine mm_geti dX2_advance_19 rfl fk_X2_49 rfl so_176 ?_
  refine mm_top (v := nI (k + 1)) (by rw [mm_up_at]) ?_
  refine mm_cV1i (dz := d - 1) dX2_advance_22 rfl mzX5_at ml_X2_56 imX5_at (by omega) so_178 ⟨rfl, rfl⟩ (ct_at rw_178 (k + 1) (by omega)) (Nat.le_of_ble_eq_true rfl) ⟨Nat.le_refl _, Nat.le_refl _⟩ ?_
  refine mm_top (v := ckd (tK T t (k + 1))) (hWR.2.2.2 (k + 1) (by omega)).1 ?_
  refine mm_puti dX2_advance_25 rfl fk_X2_59 rfl fv_2_5 so_176 ?_
  refine mm_vret dX2_advance_28 rfl ⟨Nat.le_refl _, Nat.le_refl _⟩ ?_
  rw [← cz_adv rfl] at hq
  exact hq
set_option maxRecDepth 100000 in
set_option maxHeartbeats 600000 in
theorem cp_fail {g : mm_G} {d : Nat} {I : mm_I} {T : Nat → Int32} {t : Nat} {k : Nat} {fr : Bool} {st : Nat} {Af : Nat → Int32} {an : Nat} {Sf : Nat → Int32} {sn : Nat} {Bf : Nat → Int32} {bn : Nat} {W : Nat} (hB : tp_ok T t) (hWR : WR I T t W) (hk : k ≤ W) (hd : 1 ≤ d) : mm_Cv g zX2_fail d [.ref 176] sh_S (cz I T t true k fr st Af an Sf sn Bf bn) (cz I T t false k fr st Af an Sf sn Bf bn) := by
  have hW := hWR.1
  refine mm_Cv_of (fun Q hq => ?_)
  refine mm_begin (ls := [(0, .ref 176)]) (Nat.le_of_ble_eq_true rfl) rfl rfl ?_
  refine mm_aload_n 0 dX2_fail_0 rfl rfl ?_
  refine mm_geti dX2_fail_1 rfl fk_X2_62 rfl so_176 ?_
  refine mm_top (v := -1) rfl ?_
  refine mm_if_ge (tgt := 25) dX2_fail_4 (by decide) (fun q => absurd q (by decide)) (fun _ => ?_)
  refine mm_aload_n 0 dX2_fail_7 rfl rfl ?_
  refine mm_aload_n 0 dX2_fail_8 rfl rfl ?_
  refine mm_getr (b := 177) dX2_fail_9 rfl fk_X2_14 rfl so_176 sr_176_0 ?_
  refine mm_getr (b := 182) dX2_fail_12 rfl fk_X2_79 rfl so_177 sr_177_3 ?_
  refine mm_aload_n 0 dX2_fail_15 rfl rfl ?_
  refine mm_geti dX2_fail_16 rfl fk_X2_49 rfl so_176 ?_
  refine mm_top (v := nI (k)) rfl ?_
  refine mm_cV1i (dz := d - 1) dX2_fail_19 rfl mzX5_at ml_X2_56 imX5_at (by omega) so_182 ⟨rfl, rfl⟩ (ct_at rw_182 (k) (by omega)) (Nat.le_of_ble_eq_true rfl) ⟨Nat.le_refl _, Nat.le_refl _⟩ ?_
  refine mm_top (v := nI ((tq T t k).1)) (hWR.2.2.2 k (by omega)).2.2 ?_
  refine mm_puti dX2_fail_22 rfl fk_X2_62 rfl fv_2_6 so_176 ?_
  refine mm_at (pc' := 25) rfl ?_
  refine mm_vret dX2_fail_25 rfl ⟨Nat.le_refl _, Nat.le_refl _⟩ ?_
  rw [← cz_fail rfl] at hq
  exact hq
set_option maxRecDepth 100000 in
set_option maxHeartbeats 600000 in
theorem cp_failF {g : mm_G} {d : Nat} {I : mm_I} {T : Nat → Int32} {t : Nat} {k : Nat} {fr : Bool} {st : Nat} {Af : Nat → Int32} {an : Nat} {Sf : Nat → Int32} {sn : Nat} {Bf : Nat → Int32} {bn : Nat} {W : Nat} (hB : tp_ok T t) (hWR : WR I T t W) (hd : 1 ≤ d) : mm_Cv g zX2_fail d [.ref 176] sh_S (cz I T t false k fr st Af an Sf sn Bf bn) (cz I T t false k fr st Af an Sf sn Bf bn) := by
  have htq := tq_good T t k
  have ht9 := hB.1
  obtain ⟨hq1, hq2, -⟩ := id htq
  refine mm_Cv_of (fun Q hq => ?_)
  refine mm_begin (ls := [(0, .ref 176)]) (Nat.le_of_ble_eq_true rfl) rfl rfl ?_
  refine mm_aload_n 0 dX2_fail_0 rfl rfl ?_
  refine mm_geti dX2_fail_1 rfl fk_X2_62 rfl so_176 ?_
  refine mm_top (v := nI ((tq T t k).1)) rfl ?_
  refine mm_if_geN ((tq T t k).1) (tgt := 25) dX2_fail_4 (by decide) (by omega) ?_
  refine mm_vret dX2_fail_25 rfl ⟨Nat.le_refl _, Nat.le_refl _⟩ ?_
  exact hq
theorem cp_addA {g : mm_G} {d : Nat} {I : mm_I} {T : Nat → Int32} {t : Nat} {ok : Bool} {k : Nat} {fr : Bool} {st : Nat} {Af : Nat → Int32} {an : Nat} {Sf : Nat → Int32} {sn : Nat} {Bf : Nat → Int32} {bn : Nat} {v : Int32} (h : an < 120) : mm_Ci g zX5_add d [.ref 185, .int v] sh_S (cz I T t ok k fr st Af an Sf sn Bf bn) 1 (cz I T t ok k fr st (upd Af an v) (an + 1) Sf sn Bf bn) := by
  rw [← cz_addA]
  exact ct_add rw_185 an rfl h
theorem cp_addS {g : mm_G} {d : Nat} {I : mm_I} {T : Nat → Int32} {t : Nat} {ok : Bool} {k : Nat} {fr : Bool} {st : Nat} {Af : Nat → Int32} {an : Nat} {Sf : Nat → Int32} {sn : Nat} {Bf : Nat → Int32} {bn : Nat} {v : Int32} (h : sn < 96) : mm_Ci g zX5_add d [.ref 187, .int v] sh_S (cz I T t ok k fr st Af an Sf sn Bf bn) 1 (cz I T t ok k fr st Af an (upd Sf sn v) (sn + 1) Bf bn) := by
  rw [← cz_addS]
  exact ct_add rw_187 sn rfl h
theorem cp_addB {g : mm_G} {d : Nat} {I : mm_I} {T : Nat → Int32} {t : Nat} {ok : Bool} {k : Nat} {fr : Bool} {st : Nat} {Af : Nat → Int32} {an : Nat} {Sf : Nat → Int32} {sn : Nat} {Bf : Nat → Int32} {bn : Nat} {v : Int32} (h : bn < 4) : mm_Ci g zX5_add d [.ref 189, .int v] sh_S (cz I T t ok k fr st Af an Sf sn Bf bn) 1 (cz I T t ok k fr st Af an Sf sn (upd Bf bn v) (bn + 1)) := by
  rw [← cz_addB]
  exact ct_add rw_189 bn rfl h
theorem cp_popB {g : mm_G} {d : Nat} {I : mm_I} {T : Nat → Int32} {t : Nat} {ok : Bool} {k : Nat} {fr : Bool} {st : Nat} {Af : Nat → Int32} {an : Nat} {Sf : Nat → Int32} {sn : Nat} {Bf : Nat → Int32} {bn : Nat} (h : bn < 4) (hd : 1 ≤ d) : mm_Ci g zX5_pop d [.ref 189] sh_S (cz I T t ok k fr st Af an Sf sn Bf (bn + 1)) (Bf bn) (cz I T t ok k fr st Af an Sf sn Bf bn) := by
  have hh := ct_pop (g := g) (d := d) (I := cz I T t ok k fr st Af an Sf sn Bf (bn + 1)) rw_189 bn rfl (by omega) hd
  rw [cz_sizB] at hh
  exact hh
theorem cp_setA {g : mm_G} {d : Nat} {I : mm_I} {T : Nat → Int32} {t : Nat} {ok : Bool} {k : Nat} {fr : Bool} {st : Nat} {Af : Nat → Int32} {an : Nat} {Sf : Nat → Int32} {sn : Nat} {Bf : Nat → Int32} {bn : Nat} {x : Nat} {v : Int32} (h : x < 120) : mm_Cv g zX5_set d [.ref 185, .int (nI x), .int v] sh_S (cz I T t ok k fr st Af an Sf sn Bf bn) (cz I T t ok k fr st (upd Af x v) an Sf sn Bf bn) := by
  rw [← cz_setA]
  exact ct_set rw_185 x h
