/-! THE CLASS: go, labour, light for all -/
theorem bcM_a {A : mm_I} {N : Nat → Int32} {w h t a : Nat} (ha : ¬ (13 ≤ a ∧ a ≤ 16)) : bcM A N w h t a = A a := by
  unfold bcM; rw [bcA_n (by omega), mm_up_a (by omega)]
set_option maxRecDepth 100000 in
set_option maxHeartbeats 600000 in
theorem cg_goO {g : mm_G} {d : Nat} {w h n l k o r : Nat} {A : mm_I} {N : Nat → Int32} (hz : zOK (w * h) n l k o r) (hW : mo_W N w h) {J : mm_I} (hJ : J 201 = N) {m c x y : Nat} (hm : m < n) (h1 : N (630 + 40 * m + 1) = nI c) (hcc : c < w * h) (hx : x ≤ 9999) (hy : y ≤ 9999) (ho : w ≤ x ∨ h ≤ y) (hd : 1 ≤ d) : mm_Cv g zX6_go d [.ref 171, .ref (36 + 3 * m), .int (nI (x)), .int (nI (y))] sh_S (cN (w * h) n l k o r A N) (cN (w * h) n l k o r (A) (N)) := by
  obtain ⟨hz1, hz2, hz3, hz4, hz5, hz6⟩ := id hz
  have hc := mo_W_c hW
  obtain ⟨-, -, hw1, hw2, hh1, hh2⟩ := id hW
  refine mm_Cv_of (fun Q hq => ?_)
  refine mm_begin (ls := [(0, .ref 171), (1, .ref (36 + 3 * m)), (2, .int (nI (x))), (3, .int (nI (y)))]) (Nat.le_of_ble_eq_true rfl) rfl rfl ?_
  refine mm_aload_n 0 dX6_go_0 rfl rfl ?_
  refine mm_getr (b := 1) dX6_go_1 rfl fk_X6_9 rfl so_171 sr_171_0 ?_
  refine mm_getr (b := 2) dX6_go_4 rfl fk_X6_108 rfl so_1 sr_1_0 ?_
  refine mm_astore (ls' := [(4, .ref 2), (0, .ref 171), (1, .ref (36 + 3 * m)), (2, .int (nI (x))), (3, .int (nI (y)))]) dX6_go_7 (by decide) rfl ?_
  refine mm_iload_n 3 dX6_go_9 rfl rfl ?_
  refine mm_aload 0 dX6_go_10 rfl ?_
  refine mm_geti dX6_go_12 rfl fk_X6_209 rfl so_2 ?_
  refine mm_top (v := nI w) (s_w hW) ?_
  refine mm_icmp_geN (x) (w) (tgt := 27) dX6_go_15 (by decide) (by omega) (by omega) (fun c15 => ?_) (fun c15 => ?_)
  · refine mm_vret dX6_go_27 rfl ⟨Nat.le_refl _, Nat.le_refl _⟩ ?_
    exact hq
  · refine mm_iload_n 4 dX6_go_18 rfl rfl ?_
    refine mm_aload 0 dX6_go_19 rfl ?_
    refine mm_geti dX6_go_21 rfl fk_X6_212 rfl so_2 ?_
    refine mm_top (v := nI h) (s_h hW) ?_
    refine mm_icmp_ltN (y) (h) (tgt := 28) dX6_go_24 (by decide) (by omega) (by omega) (fun c24 => ?_) (fun c24 => ?_)
    · exfalso; omega
    · refine mm_vret dX6_go_27 rfl ⟨Nat.le_refl _, Nat.le_refl _⟩ ?_
      exact hq
set_option maxRecDepth 100000 in
set_option maxHeartbeats 600000 in
theorem cg_goN {g : mm_G} {d : Nat} {w h n l k o r : Nat} {A : mm_I} {N : Nat → Int32} (hz : zOK (w * h) n l k o r) (hW : mo_W N w h) {J : mm_I} (hJ : J 201 = N) {m c x y : Nat} (hm : m < n) (h1 : N (630 + 40 * m + 1) = nI c) (hcc : c < w * h) (hx : x ≤ 9999) (hy : y ≤ 9999) (hxw : x < w) (hyh : y < h) (hb : gs_b (bf_r J w h (y * w + x)).1 w h c 4 < 0) (hd : 4 ≤ d) : mm_Cv g zX6_go d [.ref 171, .ref (36 + 3 * m), .int (nI (x)), .int (nI (y))] sh_S (cN (w * h) n l k o r A N) (cN (w * h) n l k o r (bcM A N w h (y * w + x)) (N)) := by
  obtain ⟨hz1, hz2, hz3, hz4, hz5, hz6⟩ := id hz
  have hc := mo_W_c hW
  obtain ⟨-, -, hw1, hw2, hh1, hh2⟩ := id hW
  have hgo := sp_goal hxw hyh
  refine mm_Cv_of (fun Q hq => ?_)
  refine mm_begin (ls := [(0, .ref 171), (1, .ref (36 + 3 * m)), (2, .int (nI (x))), (3, .int (nI (y)))]) (Nat.le_of_ble_eq_true rfl) rfl rfl ?_
  refine mm_aload_n 0 dX6_go_0 rfl rfl ?_
  refine mm_getr (b := 1) dX6_go_1 rfl fk_X6_9 rfl so_171 sr_171_0 ?_
  refine mm_getr (b := 2) dX6_go_4 rfl fk_X6_108 rfl so_1 sr_1_0 ?_
  refine mm_astore (ls' := [(4, .ref 2), (0, .ref 171), (1, .ref (36 + 3 * m)), (2, .int (nI (x))), (3, .int (nI (y)))]) dX6_go_7 (by decide) rfl ?_
  refine mm_iload_n 3 dX6_go_9 rfl rfl ?_
  refine mm_aload 0 dX6_go_10 rfl ?_
  refine mm_geti dX6_go_12 rfl fk_X6_209 rfl so_2 ?_
  refine mm_top (v := nI w) (s_w hW) ?_
  refine mm_icmp_geN (x) (w) (tgt := 27) dX6_go_15 (by decide) (by omega) (by omega) (fun c15 => ?_) (fun c15 => ?_)
  · exfalso; omega
  · refine mm_iload_n 4 dX6_go_18 rfl rfl ?_
    refine mm_aload 0 dX6_go_19 rfl ?_
    refine mm_geti dX6_go_21 rfl fk_X6_212 rfl so_2 ?_
    refine mm_top (v := nI h) (s_h hW) ?_
    refine mm_icmp_ltN (y) (h) (tgt := 28) dX6_go_24 (by decide) (by omega) (by omega) (fun c24 => ?_) (fun c24 => ?_)
    · refine mm_aload 0 dX6_go_28 rfl ?_
      refine mm_aload_n 2 dX6_go_30 rfl rfl ?_
      refine mm_geti dX6_go_31 rfl fk_X6_124 rfl (sm_1 (show m < 5 by omega)).1 ?_
      refine mm_top (v := N (630 + 40 * m + 1)) (cN_r ((lo_atm (by omega)).trans (if_pos ⟨by omega, by omega⟩))) ?_
      refine mm_top (v := nI (c)) h1 ?_
      refine mm_iload_n 4 dX6_go_34 rfl rfl ?_
      refine mm_aload 0 dX6_go_35 rfl ?_
      refine mm_geti dX6_go_37 rfl fk_X6_209 rfl so_2 ?_
      refine mm_top (v := nI w) (s_w hW) ?_
      refine mm_imulN (y) (w) dX6_go_40 ?_
      refine mm_iload_n 3 dX6_go_41 rfl rfl ?_
      refine mm_at (pc' := 42) rfl ?_
      refine mm_iaddN (y * w) (x) dX6_go_42 ?_
      refine mm_cV2i (dz := d - 1) dX6_go_43 rfl mzX0_stepTowards ml_X6_215 imX0_stepTowards (by omega) so_2 ⟨rfl, rfl⟩ (cg_step hz hW hJ (c := c) (t := y * w + x) hcc hgo (by omega)) (Nat.le_of_ble_eq_true rfl) ⟨Nat.le_refl _, Nat.le_refl _⟩ ?_
      refine mm_istore (ls' := [(5, .int (gs_b (bf_r J w h (y * w + x)).1 w h c 4)), (4, .ref 2), (0, .ref 171), (1, .ref (36 + 3 * m)), (2, .int (nI (x))), (3, .int (nI (y)))]) dX6_go_46 (by decide) rfl ?_
      refine mm_iload 0 dX6_go_48 rfl ?_
      refine mm_if_lt (tgt := 70) dX6_go_50 (by decide) (fun c50 => ?_) (fun c50 => ?_)
      · refine mm_vret dX6_go_70 rfl ⟨Nat.le_refl _, Nat.le_refl _⟩ ?_
        exact hq
      · exact absurd hb (by first | exact c50 | exact Int32.not_lt.mpr c50)
    · exfalso; omega
set_option maxRecDepth 100000 in
set_option maxHeartbeats 600000 in
theorem cg_goY {g : mm_G} {d : Nat} {w h n l k o r : Nat} {A : mm_I} {N : Nat → Int32} (hz : zOK (w * h) n l k o r) (hW : mo_W N w h) {J : mm_I} (hJ : J 201 = N) {m c x y : Nat} (hm : m < n) (h1 : N (630 + 40 * m + 1) = nI c) (hcc : c < w * h) (hx : x ≤ 9999) (hy : y ≤ 9999) (hxw : x < w) (hyh : y < h) {b q e : Nat} (hb : gs_b (bf_r J w h (y * w + x)).1 w h c 4 = nI b) (hbb : b < w * h) (h2 : N (630 + 40 * m + 2) = nI q) (hq100 : q ≤ 100) (hD : mo_D N n) (hK : mo_K N (w * h)) (hpl : A (36 + 3 * m) 7 = nI (e + 1)) (hd : 4 ≤ d) : mm_Cv g zX6_go d [.ref 171, .ref (36 + 3 * m), .int (nI (x)), .int (nI (y))] sh_S (cN (w * h) n l k o r A N) (cN (w * h) n l k o r (mm_up (bcM A N w h (y * w + x)) (36 + 3 * m) 7 (nI e)) (soN N n m b)) := by
  obtain ⟨hz1, hz2, hz3, hz4, hz5, hz6⟩ := id hz
  have hc := mo_W_c hW
  obtain ⟨-, -, hw1, hw2, hh1, hh2⟩ := id hW
  have hgo := sp_goal hxw hyh
  refine mm_Cv_of (fun Q hq => ?_)
  refine mm_begin (ls := [(0, .ref 171), (1, .ref (36 + 3 * m)), (2, .int (nI (x))), (3, .int (nI (y)))]) (Nat.le_of_ble_eq_true rfl) rfl rfl ?_
  refine mm_aload_n 0 dX6_go_0 rfl rfl ?_
  refine mm_getr (b := 1) dX6_go_1 rfl fk_X6_9 rfl so_171 sr_171_0 ?_
  refine mm_getr (b := 2) dX6_go_4 rfl fk_X6_108 rfl so_1 sr_1_0 ?_
  refine mm_astore (ls' := [(4, .ref 2), (0, .ref 171), (1, .ref (36 + 3 * m)), (2, .int (nI (x))), (3, .int (nI (y)))]) dX6_go_7 (by decide) rfl ?_
  refine mm_iload_n 3 dX6_go_9 rfl rfl ?_
  refine mm_aload 0 dX6_go_10 rfl ?_
  refine mm_geti dX6_go_12 rfl fk_X6_209 rfl so_2 ?_
  refine mm_top (v := nI w) (s_w hW) ?_
  refine mm_icmp_geN (x) (w) (tgt := 27) dX6_go_15 (by decide) (by omega) (by omega) (fun c15 => ?_) (fun c15 => ?_)
  · exfalso; omega
  · refine mm_iload_n 4 dX6_go_18 rfl rfl ?_
    refine mm_aload 0 dX6_go_19 rfl ?_
    refine mm_geti dX6_go_21 rfl fk_X6_212 rfl so_2 ?_
    refine mm_top (v := nI h) (s_h hW) ?_
    refine mm_icmp_ltN (y) (h) (tgt := 28) dX6_go_24 (by decide) (by omega) (by omega) (fun c24 => ?_) (fun c24 => ?_)
    · refine mm_aload 0 dX6_go_28 rfl ?_
      refine mm_aload_n 2 dX6_go_30 rfl rfl ?_
      refine mm_geti dX6_go_31 rfl fk_X6_124 rfl (sm_1 (show m < 5 by omega)).1 ?_
      refine mm_top (v := N (630 + 40 * m + 1)) (cN_r ((lo_atm (by omega)).trans (if_pos ⟨by omega, by omega⟩))) ?_
      refine mm_top (v := nI (c)) h1 ?_
      refine mm_iload_n 4 dX6_go_34 rfl rfl ?_
      refine mm_aload 0 dX6_go_35 rfl ?_
      refine mm_geti dX6_go_37 rfl fk_X6_209 rfl so_2 ?_
      refine mm_top (v := nI w) (s_w hW) ?_
      refine mm_imulN (y) (w) dX6_go_40 ?_
      refine mm_iload_n 3 dX6_go_41 rfl rfl ?_
      refine mm_at (pc' := 42) rfl ?_
      refine mm_iaddN (y * w) (x) dX6_go_42 ?_
      refine mm_cV2i (dz := d - 1) dX6_go_43 rfl mzX0_stepTowards ml_X6_215 imX0_stepTowards (by omega) so_2 ⟨rfl, rfl⟩ (cg_step hz hW hJ (c := c) (t := y * w + x) hcc hgo (by omega)) (Nat.le_of_ble_eq_true rfl) ⟨Nat.le_refl _, Nat.le_refl _⟩ ?_
      refine mm_top (v := nI b) hb ?_
      refine mm_istore (ls' := [(5, .int (nI (b))), (4, .ref 2), (0, .ref 171), (1, .ref (36 + 3 * m)), (2, .int (nI (x))), (3, .int (nI (y)))]) dX6_go_46 (by decide) rfl ?_
      refine mm_iload 0 dX6_go_48 rfl ?_
      refine mm_if_ltN (b) (tgt := 70) dX6_go_50 (by decide) (by omega) ?_
      refine mm_aload_n 3 dX6_go_53 rfl rfl ?_
      refine mm_dup dX6_go_54 rfl ?_
      refine mm_geti dX6_go_55 rfl fk_X6_148 rfl (sm_1 (show m < 5 by omega)).1 ?_
      refine mm_at (pc' := 58) rfl ?_
      refine mm_top (v := nI (e + 1)) ((s_m7 hz2 (by omega)).trans ((congrFun (bcM_a (by omega)) 7).trans hpl)) ?_
      refine mm_iconst (v := 1) dX6_go_58 rfl ?_
      refine mm_isubN (e + 1) (1) dX6_go_59 (by omega) ?_
      refine mm_puti dX6_go_60 rfl fk_X6_148 rfl fv_1_7 (sm_1 (show m < 5 by omega)).1 ?_
      refine mm_mem (J := cN (w * h) n l k o r (mm_up (bcM A N w h (y * w + x)) (36 + 3 * m) 7 (nI ((e + 1) - 1))) N) (s_m7u hz.2.1 (by omega)) ?_
      refine mm_aload_n 2 dX6_go_63 rfl rfl ?_
      refine mm_aload_n 3 dX6_go_64 rfl rfl ?_
      refine mm_iload 0 dX6_go_65 rfl ?_
      refine mm_cV2v (dz := d - 1) dX6_go_67 rfl mzX6_stepOnto ml_X6_219 imX6_stepOnto (by omega) so_171 ⟨rfl, rfl⟩ (cg_onto hz hW (m := m) (b := b) hm hbb h2 hq100 hD hK (by omega)) (Nat.le_of_ble_eq_true rfl) ⟨Nat.le_refl _, Nat.le_refl _⟩ ?_
      refine mm_vret dX6_go_70 rfl ⟨Nat.le_refl _, Nat.le_refl _⟩ ?_
      exact hq
    · exfalso; omega
set_option maxRecDepth 100000 in
set_option maxHeartbeats 600000 in
theorem cg_lasc {g : mm_G} {d : Nat} {w h n l k o r : Nat} {A : mm_I} {N : Nat → Int32} (hz : zOK (w * h) n l k o r) (hW : mo_W N w h) {J : mm_I} (hJ : J 201 = N) {m c : Nat} (hm : m < n) (h1 : N (630 + 40 * m + 1) = nI c) (hcc : c < w * h) {q : Nat} (h2 : N (630 + 40 * m + 2) = nI q) (hq100 : q ≤ 100) (hK : mo_K N (w * h)) (hQ : mo_Q N n) (hd : 5 ≤ d) : mm_Cv g zX6_labour d [.ref 171, .ref (36 + 3 * m), .int (6)] sh_S (cN (w * h) n l k o r A N) (cN (w * h) n l k o r A (op_scoops J m c 201)) := by
  obtain ⟨hz1, hz2, hz3, hz4, hz5, hz6⟩ := id hz
  have hc := mo_W_c hW
  obtain ⟨-, -, hw1, hw2, hh1, hh2⟩ := id hW
  refine mm_Cv_of (fun Q hq => ?_)
  refine mm_begin (ls := [(0, .ref 171), (1, .ref (36 + 3 * m)), (2, .int (6))]) (Nat.le_of_ble_eq_true rfl) rfl rfl ?_
  refine mm_iload_n 2 dX6_labour_0 rfl rfl ?_
  refine mm_tabIn (6) (tgt := 36) dX6_labour_1 rfl (by decide) (by decide) rfl (by decide) ?_
  refine mm_aload_n 0 dX6_labour_36 rfl rfl ?_
  refine mm_aload_n 1 dX6_labour_37 rfl rfl ?_
  refine mm_cV1v (dz := d - 1) dX6_labour_38 rfl mzX6_scoop ml_X6_195 imX6_scoop (by omega) so_171 ⟨rfl, rfl⟩ (cg_scoop hz hW hJ hm h1 hcc h2 hq100 hK hQ (by omega)) (Nat.le_of_ble_eq_true rfl) ⟨Nat.le_refl _, Nat.le_refl _⟩ ?_
  refine mm_goto (tgt := 76) dX6_labour_41 (by decide) ?_
  refine mm_vret dX6_labour_76 rfl ⟨Nat.le_refl _, Nat.le_refl _⟩ ?_
  exact hq
set_option maxRecDepth 100000 in
set_option maxHeartbeats 600000 in
theorem cg_ladr0 {g : mm_G} {d : Nat} {w h n l k o r : Nat} {A : mm_I} {N : Nat → Int32} (hz : zOK (w * h) n l k o r) (hW : mo_W N w h) {J : mm_I} (hJ : J 201 = N) {m c : Nat} (hm : m < n) (h1 : N (630 + 40 * m + 1) = nI c) (hcc : c < w * h) {q : Nat} (h2 : N (630 + 40 * m + 2) = nI q) (hq100 : q ≤ 100) (hK : mo_K N (w * h)) (hQ : mo_Q N n) {z : Nat} (h4 : N (630 + 40 * m + 4) = nI z) (hz10 : z ≤ 10) (h5 : N (630 + 40 * m + 5) = 0) (hq1 : 1 ≤ q) (hd : 5 ≤ d) : mm_Cv g zX6_labour d [.ref 171, .ref (36 + 3 * m), .int (7)] sh_S (cN (w * h) n l k o r A N) (cN (w * h) n l k o r A (op_drops J m c 0 201)) := by
  obtain ⟨hz1, hz2, hz3, hz4, hz5, hz6⟩ := id hz
  have hc := mo_W_c hW
  obtain ⟨-, -, hw1, hw2, hh1, hh2⟩ := id hW
  refine mm_Cv_of (fun Q hq => ?_)
  refine mm_begin (ls := [(0, .ref 171), (1, .ref (36 + 3 * m)), (2, .int (7))]) (Nat.le_of_ble_eq_true rfl) rfl rfl ?_
  refine mm_iload_n 2 dX6_labour_0 rfl rfl ?_
  refine mm_tabIn (7) (tgt := 44) dX6_labour_1 rfl (by decide) (by decide) rfl (by decide) ?_
  refine mm_aload_n 0 dX6_labour_44 rfl rfl ?_
  refine mm_aload_n 1 dX6_labour_45 rfl rfl ?_
  refine mm_cV1v (dz := d - 1) dX6_labour_46 rfl mzX6_drop ml_X6_198 imX6_drop (by omega) so_171 ⟨rfl, rfl⟩ (cg_drop0 hz hW hJ hm h1 hcc h2 hq100 hK hQ h4 hz10 h5 hq1 (by omega)) (Nat.le_of_ble_eq_true rfl) ⟨Nat.le_refl _, Nat.le_refl _⟩ ?_
  refine mm_goto (tgt := 76) dX6_labour_49 (by decide) ?_
  refine mm_vret dX6_labour_76 rfl ⟨Nat.le_refl _, Nat.le_refl _⟩ ?_
  exact hq
set_option maxRecDepth 100000 in
set_option maxHeartbeats 600000 in
theorem cg_ladr1 {g : mm_G} {d : Nat} {w h n l k o r : Nat} {A : mm_I} {N : Nat → Int32} (hz : zOK (w * h) n l k o r) (hW : mo_W N w h) {J : mm_I} (hJ : J 201 = N) {m c : Nat} (hm : m < n) (h1 : N (630 + 40 * m + 1) = nI c) (hcc : c < w * h) {q : Nat} (h2 : N (630 + 40 * m + 2) = nI q) (hq100 : q ≤ 100) (hK : mo_K N (w * h)) (hQ : mo_Q N n) {z : Nat} (h4 : N (630 + 40 * m + 4) = nI z) (hz10 : z ≤ 10) (h5 : N (630 + 40 * m + 5) = 1) (hq1 : 1 ≤ q) (hd : 5 ≤ d) : mm_Cv g zX6_labour d [.ref 171, .ref (36 + 3 * m), .int (7)] sh_S (cN (w * h) n l k o r A N) (cN (w * h) n l k o r A (op_drops J m c 1 201)) := by
  obtain ⟨hz1, hz2, hz3, hz4, hz5, hz6⟩ := id hz
  have hc := mo_W_c hW
  obtain ⟨-, -, hw1, hw2, hh1, hh2⟩ := id hW
  refine mm_Cv_of (fun Q hq => ?_)
  refine mm_begin (ls := [(0, .ref 171), (1, .ref (36 + 3 * m)), (2, .int (7))]) (Nat.le_of_ble_eq_true rfl) rfl rfl ?_
  refine mm_iload_n 2 dX6_labour_0 rfl rfl ?_
  refine mm_tabIn (7) (tgt := 44) dX6_labour_1 rfl (by decide) (by decide) rfl (by decide) ?_
  refine mm_aload_n 0 dX6_labour_44 rfl rfl ?_
  refine mm_aload_n 1 dX6_labour_45 rfl rfl ?_
  refine mm_cV1v (dz := d - 1) dX6_labour_46 rfl mzX6_drop ml_X6_198 imX6_drop (by omega) so_171 ⟨rfl, rfl⟩ (cg_drop1 hz hW hJ hm h1 hcc h2 hq100 hK hQ h4 hz10 h5 hq1 (by omega)) (Nat.le_of_ble_eq_true rfl) ⟨Nat.le_refl _, Nat.le_refl _⟩ ?_
  refine mm_goto (tgt := 76) dX6_labour_49 (by decide) ?_
  refine mm_vret dX6_labour_76 rfl ⟨Nat.le_refl _, Nat.le_refl _⟩ ?_
  exact hq
set_option maxRecDepth 100000 in
set_option maxHeartbeats 600000 in
theorem cg_lafu {g : mm_G} {d : Nat} {w h n l k o r : Nat} {A : mm_I} {N : Nat → Int32} (hz : zOK (w * h) n l k o r) (hW : mo_W N w h) {J : mm_I} (hJ : J 201 = N) {m c : Nat} (hm : m < n) (h1 : N (630 + 40 * m + 1) = nI c) (hcc : c < w * h) {q : Nat} (h2 : N (630 + 40 * m + 2) = nI q) (hq100 : q ≤ 100) (hK : mo_K N (w * h)) (hQ : mo_Q N n) (hd : 5 ≤ d) : mm_Cv g zX6_labour d [.ref 171, .ref (36 + 3 * m), .int (8)] sh_S (cN (w * h) n l k o r A N) (cN (w * h) n l k o r A (op_fuses J m c 201)) := by
  obtain ⟨hz1, hz2, hz3, hz4, hz5, hz6⟩ := id hz
  have hc := mo_W_c hW
  obtain ⟨-, -, hw1, hw2, hh1, hh2⟩ := id hW
  refine mm_Cv_of (fun Q hq => ?_)
  refine mm_begin (ls := [(0, .ref 171), (1, .ref (36 + 3 * m)), (2, .int (8))]) (Nat.le_of_ble_eq_true rfl) rfl rfl ?_
  refine mm_iload_n 2 dX6_labour_0 rfl rfl ?_
  refine mm_tabIn (8) (tgt := 52) dX6_labour_1 rfl (by decide) (by decide) rfl (by decide) ?_
  refine mm_aload_n 0 dX6_labour_52 rfl rfl ?_
  refine mm_aload_n 1 dX6_labour_53 rfl rfl ?_
  refine mm_cV1v (dz := d - 1) dX6_labour_54 rfl mzX6_fuse ml_X6_201 imX6_fuse (by omega) so_171 ⟨rfl, rfl⟩ (cg_fuse hz hW hJ hm h1 hcc h2 hq100 hK hQ (by omega)) (Nat.le_of_ble_eq_true rfl) ⟨Nat.le_refl _, Nat.le_refl _⟩ ?_
  refine mm_goto (tgt := 76) dX6_labour_57 (by decide) ?_
  refine mm_vret dX6_labour_76 rfl ⟨Nat.le_refl _, Nat.le_refl _⟩ ?_
  exact hq
set_option maxRecDepth 100000 in
set_option maxHeartbeats 600000 in
theorem cg_lach {g : mm_G} {d : Nat} {w h n l k o r : Nat} {A : mm_I} {N : Nat → Int32} (hz : zOK (w * h) n l k o r) (hW : mo_W N w h) {J : mm_I} (hJ : J 201 = N) {m c : Nat} (hm : m < n) (h1 : N (630 + 40 * m + 1) = nI c) (hcc : c < w * h) {q : Nat} (h2 : N (630 + 40 * m + 2) = nI q) (hq100 : q ≤ 100) (hK : mo_K N (w * h)) (hQ : mo_Q N n) {b : Nat} (hb : N 4 = nI b) (hb31 : b < 2 ^ 31) (hd : 5 ≤ d) : mm_Cv g zX6_labour d [.ref 171, .ref (36 + 3 * m), .int (9)] sh_S (cN (w * h) n l k o r A N) (cN (w * h) n l k o r A (op_charges J m c 201)) := by
  obtain ⟨hz1, hz2, hz3, hz4, hz5, hz6⟩ := id hz
  have hc := mo_W_c hW
  obtain ⟨-, -, hw1, hw2, hh1, hh2⟩ := id hW
  refine mm_Cv_of (fun Q hq => ?_)
  refine mm_begin (ls := [(0, .ref 171), (1, .ref (36 + 3 * m)), (2, .int (9))]) (Nat.le_of_ble_eq_true rfl) rfl rfl ?_
  refine mm_iload_n 2 dX6_labour_0 rfl rfl ?_
  refine mm_tabIn (9) (tgt := 60) dX6_labour_1 rfl (by decide) (by decide) rfl (by decide) ?_
  refine mm_aload_n 0 dX6_labour_60 rfl rfl ?_
  refine mm_aload_n 1 dX6_labour_61 rfl rfl ?_
  refine mm_cV1v (dz := d - 1) dX6_labour_62 rfl mzX6_charge ml_X6_204 imX6_charge (by omega) so_171 ⟨rfl, rfl⟩ (cg_charges hz hW hJ hm h1 hcc h2 hq100 hK hQ hb hb31 (by omega)) (Nat.le_of_ble_eq_true rfl) ⟨Nat.le_refl _, Nat.le_refl _⟩ ?_
  refine mm_goto (tgt := 76) dX6_labour_65 (by decide) ?_
  refine mm_vret dX6_labour_76 rfl ⟨Nat.le_refl _, Nat.le_refl _⟩ ?_
  exact hq
set_option maxRecDepth 100000 in
set_option maxHeartbeats 600000 in
theorem cg_lame {g : mm_G} {d : Nat} {w h n l k o r : Nat} {A : mm_I} {N : Nat → Int32} (hz : zOK (w * h) n l k o r) (hW : mo_W N w h) {J : mm_I} (hJ : J 201 = N) {m c : Nat} (hm : m < n) (h1 : N (630 + 40 * m + 1) = nI c) (hcc : c < w * h) {q : Nat} (h2 : N (630 + 40 * m + 2) = nI q) (hq100 : q ≤ 100) (hK : mo_K N (w * h)) (hQ : mo_Q N n) (hD : mo_D N n) (hC : mo_C N n (w * h)) (hB : mo_B N n) {v : Nat} (h12 : N 12 = nI v) (hv : v < 2 ^ 31) (hd : 5 ≤ d) : mm_Cv g zX6_labour d [.ref 171, .ref (36 + 3 * m), .int (10)] sh_S (cN (w * h) n l k o r A N) (cN (w * h) n l k o r A (op_mends J w h n m c 201)) := by
  obtain ⟨hz1, hz2, hz3, hz4, hz5, hz6⟩ := id hz
  have hc := mo_W_c hW
  obtain ⟨-, -, hw1, hw2, hh1, hh2⟩ := id hW
  refine mm_Cv_of (fun Q hq => ?_)
  refine mm_begin (ls := [(0, .ref 171), (1, .ref (36 + 3 * m)), (2, .int (10))]) (Nat.le_of_ble_eq_true rfl) rfl rfl ?_
  refine mm_iload_n 2 dX6_labour_0 rfl rfl ?_
  refine mm_tabIn (10) (tgt := 68) dX6_labour_1 rfl (by decide) (by decide) rfl (by decide) ?_
  refine mm_aload_n 0 dX6_labour_68 rfl rfl ?_
  refine mm_aload_n 1 dX6_labour_69 rfl rfl ?_
  refine mm_cV1v (dz := d - 1) dX6_labour_70 rfl mzX6_mend ml_X6_206 imX6_mend (by omega) so_171 ⟨rfl, rfl⟩ (cg_mends hz hW hJ hm h1 hcc h2 hq100 hK hQ hD hC hB h12 hv (by omega)) (Nat.le_of_ble_eq_true rfl) ⟨Nat.le_refl _, Nat.le_refl _⟩ ?_
  refine mm_goto (tgt := 76) dX6_labour_73 (by decide) ?_
  refine mm_vret dX6_labour_76 rfl ⟨Nat.le_refl _, Nat.le_refl _⟩ ?_
  exact hq
set_option maxRecDepth 100000 in
set_option maxHeartbeats 600000 in
theorem cg_lawa {g : mm_G} {d : Nat} {w h n l k o r : Nat} {A : mm_I} {N : Nat → Int32} (hz : zOK (w * h) n l k o r) (hW : mo_W N w h) {J : mm_I} (hJ : J 201 = N) {m c : Nat} (hm : m < n) (h1 : N (630 + 40 * m + 1) = nI c) (hcc : c < w * h) {q : Nat} (h2 : N (630 + 40 * m + 2) = nI q) (hq100 : q ≤ 100) (hK : mo_K N (w * h)) (hQ : mo_Q N n) (hd : 5 ≤ d) : mm_Cv g zX6_labour d [.ref 171, .ref (36 + 3 * m), .int (11)] sh_S (cN (w * h) n l k o r A N) (cN (w * h) n l k o r A (N)) := by
  obtain ⟨hz1, hz2, hz3, hz4, hz5, hz6⟩ := id hz
  have hc := mo_W_c hW
  obtain ⟨-, -, hw1, hw2, hh1, hh2⟩ := id hW
  refine mm_Cv_of (fun Q hq => ?_)
  refine mm_begin (ls := [(0, .ref 171), (1, .ref (36 + 3 * m)), (2, .int (11))]) (Nat.le_of_ble_eq_true rfl) rfl rfl ?_
  refine mm_iload_n 2 dX6_labour_0 rfl rfl ?_
  refine mm_tabOut 6 5 (tgt := 76) dX6_labour_1 rfl (by decide) (by decide) (by decide) ?_
  refine mm_vret dX6_labour_76 rfl ⟨Nat.le_refl _, Nat.le_refl _⟩ ?_
  exact hq
theorem pa_W {J : mm_I} {w h : Nat} (hW : mo_W (J 201) w h) : ∀ i, mo_W (pa_m J i 201) w h := fun i => ⟨(pa_ne i (fun _ k _ => by omega)).trans hW.1, (pa_ne i (fun _ k _ => by omega)).trans hW.2.1, hW.2.2⟩
set_option maxRecDepth 100000 in
set_option maxHeartbeats 600000 in
theorem lg_ca {g : mm_G} {d : Nat} {w h n l k o r : Nat} {A : mm_I} {N : Nat → Int32} (hz : zOK (w * h) n l k o r) (hW : mo_W N w h) {Q : Option Value → mm_Sh → mm_I → Prop} {J : mm_I} (hJ : J 201 = N) (hB : mo_B N n) (hd : 2 ≤ d) (hq : Q none sh_S (cN (w * h) n l k o r A (pa_m J n 201))) : ∀ (mf i : Nat), i ≤ n → n - i < mf → mm_Ex g zX6_chargeAll d (0, 0) (0, 0) sh_S (cN (w * h) n l k o r A (pa_m J i 201)) 2 [(1, .int (nI (i))), (0, .ref 171)] [] Q := by
  obtain ⟨hz1, hz2, hz3, hz4, hz5, hz6⟩ := id hz
  have hc := mo_W_c hW
  obtain ⟨-, -, hw1, hw2, hh1, hh2⟩ := id hW
  intro mf
  induction mf with
  | zero => intro i hi hmz; exact absurd hmz (Nat.not_lt_zero _)
  | succ mf ih =>
    intro i hi hmz
    have hWi : mo_W (pa_m J i 201) w h := pa_W (by rw [hJ]; exact hW) i
    have e3 : pa_m J i 201 (630 + 40 * i + 3) = N (630 + 40 * i + 3) := (pa_ne i (fun _ k _ => by omega)).trans (by rw [hJ])
    have e2 : pa_m J i 201 (630 + 40 * i + 2) = J 201 (630 + 40 * i + 2) := pa_ne i (fun _ k hk => by omega)
    refine mm_iload_n 0 dX6_chargeAll_2 rfl rfl ?_
    refine mm_aload_n 1 dX6_chargeAll_3 rfl rfl ?_
    refine mm_getr (b := 1) dX6_chargeAll_4 rfl fk_X6_9 rfl so_171 sr_171_0 ?_
    refine mm_geti dX6_chargeAll_7 rfl fk_X6_51 rfl so_1 ?_
    refine mm_top (v := nI (n)) s_n ?_
    refine mm_icmp_geN (i) (n) (tgt := 44) dX6_chargeAll_10 (by decide) (by omega) (by omega) (fun c10 => ?_) (fun c10 => ?_)
    · refine mm_vret dX6_chargeAll_44 rfl ⟨Nat.le_refl _, Nat.le_refl _⟩ ?_
      have e : i = n := by omega
      subst e; exact hq
    · refine mm_aload_n 1 dX6_chargeAll_13 rfl rfl ?_
      refine mm_getr (b := 1) dX6_chargeAll_14 rfl fk_X6_9 rfl so_171 sr_171_0 ?_
      refine mm_iload_n 0 dX6_chargeAll_17 rfl rfl ?_
      refine mm_cV1r (dz := d - 1) dX6_chargeAll_18 rfl mzX8_worker ml_X6_55 imX8_worker (by omega) so_1 ⟨rfl, rfl⟩ (cg_worker hz hWi (m := i) (by omega)) (Nat.le_of_ble_eq_true rfl) ⟨Nat.le_refl _, Nat.le_refl _⟩ ?_
      refine mm_astore_n (ls' := [(2, .ref (36 + 3 * i)), (1, .int (nI (i))), (0, .ref 171)]) dX6_chargeAll_21 rfl (by decide) rfl ?_
      refine mm_aload_n 0 dX6_chargeAll_22 rfl rfl ?_
      refine mm_ifnull dX6_chargeAll_23 ?_
      refine mm_at (pc' := 26) rfl ?_
      refine mm_aload_n 0 dX6_chargeAll_26 rfl rfl ?_
      refine mm_cV0i (dz := d - 1) dX6_chargeAll_27 rfl mzX1_isBroken ml_X6_118 imX1_isBroken (by omega) (sm_1 (show i < 5 by omega)).1 ⟨rfl, rfl⟩ (cg_broken hz hWi (m := i) (by omega)) (Nat.le_of_ble_eq_true rfl) ⟨Nat.le_refl _, Nat.le_refl _⟩ ?_
      refine mm_if_neB (tgt := 38) dX6_chargeAll_30 (by decide) (fun c30 => ?_) (fun c30 => ?_)
      · refine mm_iincN (ls' := [(1, .int (nI (i + 1))), (2, .ref (36 + 3 * i)), (0, .ref 171)]) 1 (i) 1 dX6_chargeAll_38 rfl rfl (by decide) rfl ?_
        refine mm_goto (tgt := 2) dX6_chargeAll_41 (by decide) ?_
        have e : pa_m J (i + 1) 201 = pa_m J i 201 := by
          obtain ⟨-, v, v1, v2⟩ := hB i (by omega)
          rw [pa_m, if_pos (by rw [hJ, v2]; rw [e3, v2] at c30; have q := (nI_leI (a := 100) (b := v) (by decide) (by omega)).mp c30; rw [show v = 100 by omega]; rfl)]
        rw [← e]
        exact mm_sub [0, 2] rfl (ih (i + 1) (by omega) (by omega))
      · refine mm_aload_n 0 dX6_chargeAll_33 rfl rfl ?_
        refine mm_iconst (v := 3) dX6_chargeAll_34 rfl ?_
        refine mm_cV1v (dz := d - 1) dX6_chargeAll_35 rfl mzX1_addCharge ml_X6_121 imX1_addCharge (by omega) (sm_1 (show i < 5 by omega)).1 ⟨rfl, rfl⟩ (cg_charge hz hWi (m := i) (by omega) (by omega)) (Nat.le_of_ble_eq_true rfl) ⟨Nat.le_refl _, Nat.le_refl _⟩ ?_
        refine mm_iincN (ls' := [(1, .int (nI (i + 1))), (2, .ref (36 + 3 * i)), (0, .ref 171)]) 1 (i) 1 dX6_chargeAll_38 rfl rfl (by decide) rfl ?_
        refine mm_goto (tgt := 2) dX6_chargeAll_41 (by decide) ?_
        have e : pa_m J (i + 1) 201 = upd (pa_m J i 201) (630 + 40 * i + 2) (sp_min 100 (pa_m J i 201 (630 + 40 * i + 2) + 3)) := by
          obtain ⟨-, v, v1, v2⟩ := hB i (by omega)
          rw [pa_m, if_neg (by rw [hJ, v2]; intro q; rw [e3, v2, q] at c30; exact c30 (by decide)), up_201, e2]
        rw [← e]
        exact mm_sub [0, 2] rfl (ih (i + 1) (by omega) (by omega))
set_option maxRecDepth 100000 in
set_option maxHeartbeats 600000 in
theorem cg_ca {g : mm_G} {d : Nat} {w h n l k o r : Nat} {A : mm_I} {N : Nat → Int32} (hz : zOK (w * h) n l k o r) (hW : mo_W N w h) {J : mm_I} (hJ : J 201 = N) (hB : mo_B N n) (hd : 2 ≤ d) : mm_Cv g zX6_chargeAll d [.ref 171] sh_S (cN (w * h) n l k o r A N) (cN (w * h) n l k o r A (pa_m J n 201)) := by
  obtain ⟨hz1, hz2, hz3, hz4, hz5, hz6⟩ := id hz
  have hc := mo_W_c hW
  obtain ⟨-, -, hw1, hw2, hh1, hh2⟩ := id hW
  refine mm_Cv_of (fun Q hq => ?_)
  refine mm_begin (ls := [(0, .ref 171)]) (Nat.le_of_ble_eq_true rfl) rfl rfl ?_
  refine mm_iconst (v := 0) dX6_chargeAll_0 rfl ?_
  refine mm_istore_n (ls' := [(1, .int (0)), (0, .ref 171)]) dX6_chargeAll_1 rfl (by decide) rfl ?_
  exact mm_sub [0, 1] rfl (mm_mem (J := cN (w * h) n l k o r A (pa_m J 0 201)) (by show _ = cN (w * h) n l k o r A (J 201); rw [hJ]) (lg_ca hz hW hJ hB hd hq (n + 1) 0 (Nat.zero_le _) (by omega)))
