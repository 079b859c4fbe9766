/-! THE CLASS: its reader, sides of signs, all levels -/
theorem lo_le (x : Nat) : lo x ≤ 5 := by unfold lo; (repeat' split) <;> omega
theorem apl_1 {f : Nat → Int32} {n c : Nat} {a b : List Nat} : apl f n (a ++ b ++ [c]) = upd (apl (apl f n a) (n + a.length) b) (n + a.length + b.length) (cs_ c) := by
  rw [apl_app, apl_app, List.length_append, ← Nat.add_assoc]; rfl
set_option maxRecDepth 100000 in
set_option maxHeartbeats 600000 in
theorem lp_sides {g : mm_G} {I : mm_I} {T : Nat → Int32} {t : Nat} {fr : Bool} {st : Nat} {Af : Nat → Int32} {an : Nat} {Bf : Nat → Int32} {bn W : Nat} (hB : tp_ok T t) (hWR : WR I T t W) {l br ns dd : Nat} (hl5 : l < 5) {nxt : Nat → Bool × Nat × List Nat} (hok : ∀ k, px_ok (tK T t) k (nxt k)) (hw : ∀ k, k ≤ W → (nxt k).2.1 ≤ W) (hd4 : 4 ≤ dd) (hN : ∀ (k : Nat) (Sf : Nat → Int32) (sn d : Nat), dd ≤ d → k ≤ W → sn ≤ k → mm_Cv g zX2_readSides d [.ref 176, .int (nI (l + 1)), .int (nI br), .int (nI ns)] sh_S (cz I T t true k fr st Af an Sf sn Bf bn) (cz I T t ((nxt k).1) ((nxt k).2.1) fr st Af an (apl Sf sn (nxt k).2.2) (sn + (nxt k).2.2.length) Bf bn)) {Q : Option Value → mm_Sh → mm_I → Prop} {Sf : Nat → Int32} {sn d M : Nat} (hM : M ≤ 96) (hd : dd + 1 ≤ d) : ∀ (m n : Nat) (rb : Bool) (rk : Nat) (rc : List Nat), n + m = M → rk ≤ W → sn + rc.length ≤ rk → Q none sh_S (cz I T t ((px_lp (tK T t) nxt l m (rb, rk, rc)).1) ((px_lp (tK T t) nxt l m (rb, rk, rc)).2.1) fr st Af an (apl Sf sn (px_lp (tK T t) nxt l m (rb, rk, rc)).2.2) (sn + (px_lp (tK T t) nxt l m (rb, rk, rc)).2.2.length) Bf bn) → mm_Ex g zX2_readSides d (0, 0) (0, 0) sh_S (cz I T t rb rk fr st Af an (apl Sf sn rc) (sn + rc.length) Bf bn) 37 [(5, .int (nI (n))), (4, .int (nI (M))), (0, .ref 176), (1, .int (nI (l))), (2, .int (nI (br))), (3, .int (nI (ns)))] [] Q := by
  have hW := hWR.1
  intro m
  induction m with
  | zero =>
    intro n rb rk rc hn hk hl hq
    refine mm_iload 0 dX2_readSides_37 rfl ?_
    refine mm_iload 1 dX2_readSides_39 rfl ?_
    refine mm_icmp_geN (n) (M) (tgt := 101) dX2_readSides_41 (by decide) (by omega) (by omega) (fun c41 => ?_) (fun c41 => ?_)
    · refine mm_vret dX2_readSides_101 rfl ⟨Nat.le_refl _, Nat.le_refl _⟩ ?_
      exact hq
    · omega
  | succ m ih =>
    intro n rb rk rc hn hk hl hq
    have htq := tq_good T t rk
    have ht9 := hB.1
    obtain ⟨hq1, hq2, -⟩ := id htq
    have hlo5 := lo_le (tK T t rk)
    cases rb with
    | false =>
      rw [px_lp_n (by rintro ⟨q, -⟩; exact absurd (show false = true from q) (by decide))] at hq
      refine mm_iload 0 dX2_readSides_37 rfl ?_
      refine mm_iload 1 dX2_readSides_39 rfl ?_
      refine mm_icmp_geN (n) (M) (tgt := 101) dX2_readSides_41 (by decide) (by omega) (by omega) (fun c41 => ?_) (fun c41 => ?_)
      · refine mm_vret dX2_readSides_101 rfl ⟨Nat.le_refl _, Nat.le_refl _⟩ ?_
        exact hq
      · refine mm_aload_n 2 dX2_readSides_44 rfl rfl ?_
        refine mm_geti dX2_readSides_45 rfl fk_X2_62 rfl so_176 ?_
        refine mm_top (v := nI ((tq T t rk).1)) rfl ?_
        refine mm_if_geN ((tq T t rk).1) (tgt := 101) dX2_readSides_48 (by decide) (by omega) ?_
        refine mm_vret dX2_readSides_101 rfl ⟨Nat.le_refl _, Nat.le_refl _⟩ ?_
        exact hq
    | true =>
      by_cases cL : lo (tK T t rk) = l
      · have hlt := WR_lt hWR hk (by intro q; rw [q] at cL; exact lo_400 l hl5 cL) (by intro q; rw [q, show lo 404 = 5 from rfl] at cL; omega)
        obtain ⟨h1, h2, h3, h4⟩ := hok (rk + 1)
        have h5 := hw (rk + 1) (by omega)
        rw [px_lp, if_pos ⟨rfl, cL⟩] at hq
        refine mm_iload 0 dX2_readSides_37 rfl ?_
        refine mm_iload 1 dX2_readSides_39 rfl ?_
        refine mm_icmp_geN (n) (M) (tgt := 101) dX2_readSides_41 (by decide) (by omega) (by omega) (fun c41 => ?_) (fun c41 => ?_)
        · omega
        · refine mm_aload_n 2 dX2_readSides_44 rfl rfl ?_
          refine mm_geti dX2_readSides_45 rfl fk_X2_62 rfl so_176 ?_
          refine mm_top (v := -1) rfl ?_
          refine mm_if_ge (tgt := 101) dX2_readSides_48 (by decide) (fun q => absurd q (by decide)) (fun _ => ?_)
          refine mm_iload_n 3 dX2_readSides_51 rfl rfl ?_
          refine mm_aload_n 2 dX2_readSides_52 rfl rfl ?_
          refine mm_geti dX2_readSides_53 rfl fk_X2_59 rfl so_176 ?_
          refine mm_top (v := ckd (tK T t rk)) rfl ?_
          refine mm_cS1i (dz := d - 1) dX2_readSides_56 rfl mzX2_looseness ml_X2_137 imX2_looseness (by omega) (ck_loose (tK_rng hB)) (Nat.le_of_ble_eq_true rfl) ⟨Nat.le_refl _, Nat.le_refl _⟩ ?_
          refine mm_icmp_neN (l) (lo (tK T t rk)) (tgt := 101) dX2_readSides_59 (by decide) (by omega) (by omega) (fun c59 => ?_) (fun c59 => ?_)
          · omega
          · refine mm_aload_n 2 dX2_readSides_62 rfl rfl ?_
            refine mm_geti dX2_readSides_63 rfl fk_X2_59 rfl so_176 ?_
            refine mm_top (v := ckd (tK T t rk)) rfl ?_
            refine mm_istore (ls' := [(6, .int (ckd (tK T t rk))), (5, .int (nI (n))), (4, .int (nI (M))), (0, .ref 176), (1, .int (nI (l))), (2, .int (nI (br))), (3, .int (nI (ns)))]) dX2_readSides_66 (by decide) rfl ?_
            refine mm_aload_n 3 dX2_readSides_68 rfl rfl ?_
            refine mm_cV0v (dz := d - 1) dX2_readSides_69 rfl mzX2_advance ml_X2_82 imX2_advance (by omega) so_176 ⟨rfl, rfl⟩ (cp_adv hB hWR (by omega) (by omega)) (Nat.le_of_ble_eq_true rfl) ⟨Nat.le_refl _, Nat.le_refl _⟩ ?_
            refine mm_aload_n 3 dX2_readSides_72 rfl rfl ?_
            refine mm_iload_n 4 dX2_readSides_73 rfl rfl ?_
            refine mm_at (pc' := 74) rfl ?_
            refine mm_iconst (v := 1) dX2_readSides_74 rfl ?_
            refine mm_iaddN (l) (1) dX2_readSides_75 ?_
            refine mm_iload_n 5 dX2_readSides_76 rfl rfl ?_
            refine mm_iload_n 6 dX2_readSides_77 rfl rfl ?_
            refine mm_cV3v (dz := d - 1) dX2_readSides_78 rfl mzX2_readSides ml_X2_129 imX2_readSides (by omega) so_176 ⟨rfl, rfl⟩ (hN (rk + 1) (apl Sf sn rc) (sn + rc.length) (d - 1) (by omega) (by omega) (by omega)) (Nat.le_of_ble_eq_true rfl) ⟨Nat.le_refl _, Nat.le_refl _⟩ ?_
            refine mm_aload_n 3 dX2_readSides_81 rfl rfl ?_
            refine mm_getr (b := 184) dX2_readSides_82 rfl fk_X2_23 rfl so_176 sr_176_1 ?_
            refine mm_getr (b := 187) dX2_readSides_85 rfl fk_X2_126 rfl so_184 sr_184_1 ?_
            refine mm_at (pc' := 88) rfl ?_
            refine mm_iload 0 dX2_readSides_88 rfl ?_
            refine mm_ineg dX2_readSides_90 ?_
            refine mm_cV1i (dz := d - 1) dX2_readSides_91 rfl mzX5_add ml_X2_94 imX5_add (by omega) so_187 ⟨rfl, rfl⟩ (cp_addS (by omega)) (Nat.le_of_ble_eq_true rfl) ⟨Nat.le_refl _, Nat.le_refl _⟩ ?_
            refine mm_pop dX2_readSides_94 rfl ?_
            refine mm_iincN (ls' := [(5, .int (nI (n + 1))), (6, .int (ckd (tK T t rk))), (4, .int (nI (M))), (0, .ref 176), (1, .int (nI (l))), (2, .int (nI (br))), (3, .int (nI (ns)))]) 1 (n) 1 dX2_readSides_95 rfl rfl (by decide) rfl ?_
            refine mm_goto (tgt := 37) dX2_readSides_98 (by decide) ?_
            have hh := ih (n + 1) (nxt (rk + 1)).1 (nxt (rk + 1)).2.1 (rc ++ (nxt (rk + 1)).2.2 ++ [20000 + si (tK T t rk)]) (by omega) h5 (by simp only [List.length_append, List.length_cons, List.length_nil]; omega) hq
            rw [apl_1, ← cs_sg (by omega), show sn + (rc ++ (nxt (rk + 1)).2.2 ++ [20000 + si (tK T t rk)]).length = (sn + rc.length + (nxt (rk + 1)).2.2.length) + 1 by simp only [List.length_append, List.length_cons, List.length_nil]; omega] at hh
            exact mm_sub [0, 2, 3, 4, 5, 6] rfl hh
      · rw [px_lp_n (fun q => cL q.2)] at hq
        refine mm_iload 0 dX2_readSides_37 rfl ?_
        refine mm_iload 1 dX2_readSides_39 rfl ?_
        refine mm_icmp_geN (n) (M) (tgt := 101) dX2_readSides_41 (by decide) (by omega) (by omega) (fun c41 => ?_) (fun c41 => ?_)
        · refine mm_vret dX2_readSides_101 rfl ⟨Nat.le_refl _, Nat.le_refl _⟩ ?_
          exact hq
        · refine mm_aload_n 2 dX2_readSides_44 rfl rfl ?_
          refine mm_geti dX2_readSides_45 rfl fk_X2_62 rfl so_176 ?_
          refine mm_top (v := -1) rfl ?_
          refine mm_if_ge (tgt := 101) dX2_readSides_48 (by decide) (fun q => absurd q (by decide)) (fun _ => ?_)
          refine mm_iload_n 3 dX2_readSides_51 rfl rfl ?_
          refine mm_aload_n 2 dX2_readSides_52 rfl rfl ?_
          refine mm_geti dX2_readSides_53 rfl fk_X2_59 rfl so_176 ?_
          refine mm_top (v := ckd (tK T t rk)) rfl ?_
          refine mm_cS1i (dz := d - 1) dX2_readSides_56 rfl mzX2_looseness ml_X2_137 imX2_looseness (by omega) (ck_loose (tK_rng hB)) (Nat.le_of_ble_eq_true rfl) ⟨Nat.le_refl _, Nat.le_refl _⟩ ?_
          refine mm_icmp_neN (l) (lo (tK T t rk)) (tgt := 101) dX2_readSides_59 (by decide) (by omega) (by omega) (fun c59 => ?_) (fun c59 => ?_)
          · refine mm_vret dX2_readSides_101 rfl ⟨Nat.le_refl _, Nat.le_refl _⟩ ?_
            exact hq
          · omega
set_option maxRecDepth 100000 in
set_option maxHeartbeats 600000 in
theorem cp_side {g : mm_G} {I : mm_I} {T : Nat → Int32} {t : Nat} {fr : Bool} {st : Nat} {Af : Nat → Int32} {an : Nat} {Bf : Nat → Int32} {bn W : Nat} (hB : tp_ok T t) (hWR : WR I T t W) {l br ns dd : Nat} (hl5 : l < 5) {nxt : Nat → Bool × Nat × List Nat} (hok : ∀ k, px_ok (tK T t) k (nxt k)) (hw : ∀ k, k ≤ W → (nxt k).2.1 ≤ W) (hd4 : 4 ≤ dd) (hN : ∀ (k : Nat) (Sf : Nat → Int32) (sn d : Nat), dd ≤ d → k ≤ W → sn ≤ k → mm_Cv g zX2_readSides d [.ref 176, .int (nI (l + 1)), .int (nI br), .int (nI ns)] sh_S (cz I T t true k fr st Af an Sf sn Bf bn) (cz I T t ((nxt k).1) ((nxt k).2.1) fr st Af an (apl Sf sn (nxt k).2.2) (sn + (nxt k).2.2.length) Bf bn)) : ∀ (k : Nat) (Sf : Nat → Int32) (sn d : Nat), dd + 1 ≤ d → k ≤ W → sn ≤ k → mm_Cv g zX2_readSides d [.ref 176, .int (nI l), .int (nI br), .int (nI ns)] sh_S (cz I T t true k fr st Af an Sf sn Bf bn) (cz I T t ((px_lp (tK T t) nxt l (if l = 2 then 1 else 96) (nxt k)).1) ((px_lp (tK T t) nxt l (if l = 2 then 1 else 96) (nxt k)).2.1) fr st Af an (apl Sf sn (px_lp (tK T t) nxt l (if l = 2 then 1 else 96) (nxt k)).2.2) (sn + (px_lp (tK T t) nxt l (if l = 2 then 1 else 96) (nxt k)).2.2.length) Bf bn) := by
  intro k Sf sn d hd hk hl
  have hW := hWR.1
  obtain ⟨h1, h2, h3, h4⟩ := hok k
  have h5 := hw k hk
  refine mm_Cv_of (fun Q hq => ?_)
  refine mm_begin (ls := [(0, .ref 176), (1, .int (nI (l))), (2, .int (nI (br))), (3, .int (nI (ns)))]) (Nat.le_of_ble_eq_true rfl) rfl rfl ?_
  refine mm_iload_n 1 dX2_readSides_0 rfl rfl ?_
  refine mm_iconst (v := 5) dX2_readSides_1 rfl ?_
  refine mm_icmp_ltN (l) (5) (tgt := 12) dX2_readSides_2 (by decide) (by omega) (by omega) (fun c2 => ?_) (fun c2 => ?_)
  · refine mm_aload_n 0 dX2_readSides_12 rfl rfl ?_
    refine mm_iload_n 1 dX2_readSides_13 rfl rfl ?_
    refine mm_iconst (v := 1) dX2_readSides_14 rfl ?_
    refine mm_iaddN (l) (1) dX2_readSides_15 ?_
    refine mm_iload_n 2 dX2_readSides_16 rfl rfl ?_
    refine mm_iload_n 3 dX2_readSides_17 rfl rfl ?_
    refine mm_cV3v (dz := d - 1) dX2_readSides_18 rfl mzX2_readSides ml_X2_129 imX2_readSides (by omega) so_176 ⟨rfl, rfl⟩ (hN k Sf sn (d - 1) (by omega) hk hl) (Nat.le_of_ble_eq_true rfl) ⟨Nat.le_refl _, Nat.le_refl _⟩ ?_
    refine mm_iload_n 1 dX2_readSides_21 rfl rfl ?_
    refine mm_at (pc' := 22) rfl ?_
    refine mm_iconst (v := 2) dX2_readSides_22 rfl ?_
    refine mm_icmp_neN (l) (2) (tgt := 30) dX2_readSides_23 (by decide) (by omega) (by omega) (fun c23 => ?_) (fun c23 => ?_)
    · refine mm_bipush (v := 96) dX2_readSides_30 rfl ?_
      refine mm_istore (ls' := [(4, .int (96)), (0, .ref 176), (1, .int (nI (l))), (2, .int (nI (br))), (3, .int (nI (ns)))]) dX2_readSides_32 (by decide) rfl ?_
      refine mm_iconst (v := 0) dX2_readSides_34 rfl ?_
      refine mm_istore (ls' := [(5, .int (0)), (4, .int (96)), (0, .ref 176), (1, .int (nI (l))), (2, .int (nI (br))), (3, .int (nI (ns)))]) dX2_readSides_35 (by decide) rfl ?_
      rw [if_neg c23] at hq
      exact mm_sub [0, 1, 2, 3, 4, 5] rfl (lp_sides (M := 96) hB hWR hl5 hok hw hd4 hN (by decide) hd 96 0 (nxt k).1 (nxt k).2.1 (nxt k).2.2 rfl h5 (by omega) hq)
    · refine mm_iconst (v := 1) dX2_readSides_26 rfl ?_
      refine mm_goto (tgt := 32) dX2_readSides_27 (by decide) ?_
      refine mm_istore (ls' := [(4, .int (1)), (0, .ref 176), (1, .int (nI (l))), (2, .int (nI (br))), (3, .int (nI (ns)))]) dX2_readSides_32 (by decide) rfl ?_
      refine mm_iconst (v := 0) dX2_readSides_34 rfl ?_
      refine mm_istore (ls' := [(5, .int (0)), (4, .int (1)), (0, .ref 176), (1, .int (nI (l))), (2, .int (nI (br))), (3, .int (nI (ns)))]) dX2_readSides_35 (by decide) rfl ?_
      rw [if_pos c23] at hq
      exact mm_sub [0, 1, 2, 3, 4, 5] rfl (lp_sides (M := 1) hB hWR hl5 hok hw hd4 hN (by decide) hd 1 0 (nxt k).1 (nxt k).2.1 (nxt k).2.2 rfl h5 (by omega) hq)
  · omega
set_option maxRecDepth 100000 in
set_option maxHeartbeats 600000 in
theorem cp_side5 {g : mm_G} {I : mm_I} {T : Nat → Int32} {t : Nat} {fr : Bool} {st : Nat} {Af : Nat → Int32} {an : Nat} {Bf : Nat → Int32} {bn W : Nat} (hB : tp_ok T t) (hWR : WR I T t W) {br ns dd : Nat} {nxt : Nat → Bool × Nat × List Nat} (hN : ∀ (k : Nat) (Sf : Nat → Int32) (sn d : Nat), dd ≤ d → k ≤ W → sn ≤ k → mm_Cv g zX2_readPart d [.ref 176, .int (nI br), .int (nI ns)] sh_S (cz I T t true k fr st Af an Sf sn Bf bn) (cz I T t ((nxt k).1) ((nxt k).2.1) fr st Af an (apl Sf sn (nxt k).2.2) (sn + (nxt k).2.2.length) Bf bn)) : ∀ (k : Nat) (Sf : Nat → Int32) (sn d : Nat), dd + 1 ≤ d → k ≤ W → sn ≤ k → mm_Cv g zX2_readSides d [.ref 176, .int (nI 5), .int (nI br), .int (nI ns)] sh_S (cz I T t true k fr st Af an Sf sn Bf bn) (cz I T t ((nxt k).1) ((nxt k).2.1) fr st Af an (apl Sf sn (nxt k).2.2) (sn + (nxt k).2.2.length) Bf bn) := by
  intro k Sf sn d hd hk hl
  refine mm_Cv_of (fun Q hq => ?_)
  refine mm_begin (ls := [(0, .ref 176), (1, .int (5)), (2, .int (nI (br))), (3, .int (nI (ns)))]) (Nat.le_of_ble_eq_true rfl) rfl rfl ?_
  refine mm_iload_n 1 dX2_readSides_0 rfl rfl ?_
  refine mm_iconst (v := 5) dX2_readSides_1 rfl ?_
  refine mm_icmp_lt (tgt := 12) dX2_readSides_2 (by decide) (fun q => absurd q (by decide)) (fun _ => ?_)
  refine mm_aload_n 0 dX2_readSides_5 rfl rfl ?_
  refine mm_iload_n 2 dX2_readSides_6 rfl rfl ?_
  refine mm_iload_n 3 dX2_readSides_7 rfl rfl ?_
  refine mm_cV2v (dz := d - 1) dX2_readSides_8 rfl mzX2_readPart ml_X2_133 imX2_readPart (by omega) so_176 ⟨rfl, rfl⟩ (hN k Sf sn (d - 1) (by omega) hk hl) (Nat.le_of_ble_eq_true rfl) ⟨Nat.le_refl _, Nat.le_refl _⟩ ?_
  refine mm_vret dX2_readSides_11 rfl ⟨Nat.le_refl _, Nat.le_refl _⟩ ?_
  exact hq
theorem cp_px {g : mm_G} {I : mm_I} {T : Nat → Int32} {t : Nat} {fr : Bool} {st : Nat} {Af : Nat → Int32} {an : Nat} {Bf : Nat → Int32} {bn W : Nat} (hB : tp_ok T t) (hWR : WR I T t W) : ∀ (F br ns : Nat), br ≤ 8 → ns ≤ 8 → (fu 5 br ns ≤ F → ∀ (k : Nat) (Sf : Nat → Int32) (sn d : Nat), 2 * F + 4 ≤ d → k ≤ W → sn ≤ k → mm_Cv g zX2_readPart d [.ref 176, .int (nI br), .int (nI ns)] sh_S (cz I T t true k fr st Af an Sf sn Bf bn) (cz I T t ((px (tK T t) (tV T t) F 5 br ns k).1) ((px (tK T t) (tV T t) F 5 br ns k).2.1) fr st Af an (apl Sf sn (px (tK T t) (tV T t) F 5 br ns k).2.2) (sn + (px (tK T t) (tV T t) F 5 br ns k).2.2.length) Bf bn)) ∧ (∀ l, l ≤ 5 → fu l br ns ≤ F → ∀ (k : Nat) (Sf : Nat → Int32) (sn d : Nat), 2 * F + 5 ≤ d → k ≤ W → sn ≤ k → mm_Cv g zX2_readSides d [.ref 176, .int (nI l), .int (nI br), .int (nI ns)] sh_S (cz I T t true k fr st Af an Sf sn Bf bn) (cz I T t ((px (tK T t) (tV T t) F l br ns k).1) ((px (tK T t) (tV T t) F l br ns k).2.1) fr st Af an (apl Sf sn (px (tK T t) (tV T t) F l br ns k).2.2) (sn + (px (tK T t) (tV T t) F l br ns k).2.2.length) Bf bn)) := by
  intro F
  induction F with
  | zero => intro br ns h2 h3; exact ⟨fun h4 => by exfalso; unfold fu at h4; omega, fun l h1 h4 => by exfalso; unfold fu at h4; omega⟩
  | succ F ih =>
    intro br ns h2 h3
    have hg := fun l br ns k => px_good (K := tK T t) (V := tV T t) F l br ns k
    have hpart : fu 5 br ns ≤ F + 1 → ∀ (k : Nat) (Sf : Nat → Int32) (sn d : Nat), 2 * (F + 1) + 4 ≤ d → k ≤ W → sn ≤ k → mm_Cv g zX2_readPart d [.ref 176, .int (nI br), .int (nI ns)] sh_S (cz I T t true k fr st Af an Sf sn Bf bn) (cz I T t ((px (tK T t) (tV T t) (F + 1) 5 br ns k).1) ((px (tK T t) (tV T t) (F + 1) 5 br ns k).2.1) fr st Af an (apl Sf sn (px (tK T t) (tV T t) (F + 1) 5 br ns k).2.2) (sn + (px (tK T t) (tV T t) (F + 1) 5 br ns k).2.2.length) Bf bn) := by
      intro h4 k Sf sn d hd hk hl
      unfold fu at h4
      have e : px (tK T t) (tV T t) (F + 1) 5 br ns k = px5 (tK T t) (tV T t) (px (tK T t) (tV T t) F 5 br (ns + 1)) (px (tK T t) (tV T t) F 0 (br + 1) ns) br ns k := by
        rw [px, if_neg (by omega)]; rfl
      rw [e]
      exact cp_part hB hWR (hg 5 br (ns + 1)) (hg 0 (br + 1) ns) (fun k hk => px_W hWR hk) (fun k hk => px_W hWR hk) (dd := 2 * F + 5) (by omega) h2 h3 (fun h k Sf sn d q1 q2 q3 => (ih br (ns + 1) h2 (by omega)).1 (by unfold fu; omega) k Sf sn d (by omega) q2 q3) (fun h k Sf sn d q1 q2 q3 => (ih (br + 1) ns (by omega) h3).2 0 (by decide) (by unfold fu; omega) k Sf sn d q1 q2 q3) k Sf sn d (by omega) hk hl
    refine ⟨hpart, fun l h1 h4 k Sf sn d hd hk hl => ?_⟩
    by_cases c5 : l = 5
    · subst c5
      exact cp_side5 hB hWR (dd := 2 * (F + 1) + 4) (nxt := px (tK T t) (tV T t) (F + 1) 5 br ns) (hpart h4) k Sf sn d (by omega) hk hl
    · unfold fu at h4
      have hN := (ih br ns h2 h3).2 (l + 1) (by omega) (by unfold fu; omega)
      have e : px (tK T t) (tV T t) (F + 1) l br ns k = px_lp (tK T t) (px (tK T t) (tV T t) F (l + 1) br ns) l (if l = 2 then 1 else 96) (px (tK T t) (tV T t) F (l + 1) br ns k) := by
        rw [px, if_pos (by omega)]
      rw [e]
      exact cp_side hB hWR (by omega) (hg (l + 1) br ns) (fun k hk => px_W hWR hk) (dd := 2 * F + 5) (by omega) hN k Sf sn d (by omega) hk hl
