/-! THE CLASS: check -/
theorem mm_Ct_w {g : mm_G} {z : mm_M} {d : Nat} {Mt : Nat × Nat} {av : List Value} {S : mm_Sh} {I : mm_I} {Q Q' : Option Value → mm_Sh → mm_I → Prop} (h : mm_Ct g z d Mt av S I Q) (hQ : ∀ q S' J, Q q S' J → Q' q S' J) : mm_Ct g z d Mt av S I Q' := by
  intro p e R s m args below meth c rho kap hC hG hV ha T hT X
  obtain ⟨t, h1, o, h2, h3, ⟨⟨r', S', I', rho', kap', e1, h4, h5, h6⟩, h7⟩, h8⟩ := h p e R s m args below meth c rho kap hC hG hV ha T hT X
  exact ⟨t, h1, o, h2, h3, ⟨⟨_, _, _, rho', kap', e1, hQ _ _ _ h4, h5, h6⟩, h7⟩, h8⟩
theorem mm_Ci_Di {g : mm_G} {z : mm_M} {d : Nat} {av : List Value} {S : mm_Sh} {I : mm_I} {r : Int32} {J : mm_I} {P : Int32 → mm_I → Prop} (h : mm_Ci g z d av S I r J) (hp : P r J) : mm_Di g z d av S I P :=
  mm_Ct_w h (fun q S' J' hh => by obtain ⟨rfl, rfl, rfl⟩ := hh; exact ⟨rfl, _, rfl, hp⟩)
theorem mm_Cv_Dv {g : mm_G} {z : mm_M} {d : Nat} {av : List Value} {S : mm_Sh} {I : mm_I} {J : mm_I} {P : mm_I → Prop} (h : mm_Cv g z d av S I J) (hp : P J) : mm_Dv g z d av S I P :=
  mm_Ct_w h (fun q S' J' hh => by obtain ⟨rfl, rfl, rfl⟩ := hh; exact ⟨rfl, rfl, hp⟩)
theorem mm_Di_w {g : mm_G} {z : mm_M} {d : Nat} {av : List Value} {S : mm_Sh} {I : mm_I} {P P' : Int32 → mm_I → Prop} (h : mm_Di g z d av S I P) (hp : ∀ r J, P r J → P' r J) : mm_Di g z d av S I P' :=
  mm_Ct_w h (fun q S' J' hh => by obtain ⟨rfl, r, rfl, h2⟩ := hh; exact ⟨rfl, _, rfl, hp _ _ h2⟩)
theorem mm_Dv_w {g : mm_G} {z : mm_M} {d : Nat} {av : List Value} {S : mm_Sh} {I : mm_I} {P P' : mm_I → Prop} (h : mm_Dv g z d av S I P) (hp : ∀ J, P J → P' J) : mm_Dv g z d av S I P' :=
  mm_Ct_w h (fun q S' J' hh => by obtain ⟨rfl, rfl, h2⟩ := hh; exact ⟨rfl, rfl, hp _ h2⟩)
def chF (A B : mm_I) : Prop := ∀ a, ¬ (a = 22 ∨ (31 ≤ a ∧ a ≤ 34) ∨ a = 193 ∨ a = 194) → B a = A a
theorem chF_0 (A : mm_I) : chF A A := fun _ _ => rfl
theorem chF_w {A B C : mm_I} (h : chF A B) (h2 : wF B C) : chF A C := fun a ha => (h2 a (by omega)).trans (h a ha)
theorem chF_d {A B C : mm_I} (h : chF A B) (h2 : dF B C) : chF A C := fun a ha => (h2 a (by omega)).trans (h a ha)
theorem chF_s (A : mm_I) {x : Int32} : chF A (mm_up A 193 1 x) := fun a ha => mm_up_a (by omega)
set_option maxRecDepth 100000 in
set_option maxHeartbeats 600000 in
theorem cg_cwB {g : mm_G} {d : Nat} {w h n l k o r : Nat} {A : mm_I} {N : Nat → Int32} (hz : zOK (w * h) n l k o r) (hW : mo_W N w h) {x y : Int32} (hx : ¬ sp_wi x 0 1 ∨ ¬ sp_wi y 1 24) (hd : 1 ≤ d) : mm_Ci g zX11_compareWaiting d [.ref 0, .int (x), .int (y)] sh_S (cN (w * h) n l k o r A N) (-1000000001) (cN (w * h) n l k o r A N) := by
  obtain ⟨hz1, hz2, hz3, hz4, hz5, hz6⟩ := id hz
  have hc := mo_W_c hW
  obtain ⟨-, -, hw1, hw2, hh1, hh2⟩ := id hW
  refine mm_Ci_of (fun Q hq => ?_)
  refine mm_begin (ls := [(0, .ref 0), (1, .int (x)), (2, .int (y))]) (Nat.le_of_ble_eq_true rfl) rfl rfl ?_
  refine mm_iload_n 1 dX11_compareWaiting_0 rfl rfl ?_
  refine mm_iconst (v := 0) dX11_compareWaiting_1 rfl ?_
  refine mm_iconst (v := 1) dX11_compareWaiting_2 rfl ?_
  refine mm_cS3i (dz := d - 1) dX11_compareWaiting_3 rfl mzX11_within ml_X11_63 imX11_within (by omega) cx_within (Nat.le_of_ble_eq_true rfl) ⟨Nat.le_refl _, Nat.le_refl _⟩ ?_
  refine mm_if_eqB (tgt := 19) dX11_compareWaiting_6 (by decide) (fun c6 => ?_) (fun c6 => ?_)
  · refine mm_ldc dX11_compareWaiting_19 rfl kc_X11_67 ?_
    refine mm_iret dX11_compareWaiting_21 rfl ⟨Nat.le_refl _, Nat.le_refl _⟩ ?_
    exact hq
  · refine mm_iload_n 2 dX11_compareWaiting_9 rfl rfl ?_
    refine mm_iconst (v := 1) dX11_compareWaiting_10 rfl ?_
    refine mm_bipush (v := 24) dX11_compareWaiting_11 rfl ?_
    refine mm_cS3i (dz := d - 1) dX11_compareWaiting_13 rfl mzX11_within ml_X11_63 imX11_within (by omega) cx_within (Nat.le_of_ble_eq_true rfl) ⟨Nat.le_refl _, Nat.le_refl _⟩ ?_
    refine mm_if_neB (tgt := 22) dX11_compareWaiting_16 (by decide) (fun c16 => ?_) (fun c16 => ?_)
    · exact absurd hx (by intro q; rcases q with q | q; exact q c6; exact q c16)
    · refine mm_ldc dX11_compareWaiting_19 rfl kc_X11_67 ?_
      refine mm_iret dX11_compareWaiting_21 rfl ⟨Nat.le_refl _, Nat.le_refl _⟩ ?_
      exact hq
set_option maxRecDepth 100000 in
set_option maxHeartbeats 600000 in
theorem cg_cw0 {g : mm_G} {d : Nat} {w h n l k o r : Nat} {A : mm_I} {N : Nat → Int32} (hz : zOK (w * h) n l k o r) (hW : mo_W N w h) {J0 : mm_I} (hJ : J0 201 = N) {t : Nat} (ht : A 191 1 = nI t) (ht1 : t ≤ 100) (hWt : ∀ i, i < t → A 192 i = J0 204 i) (hH : mo_H N l) (hB : 0 ≤ N 4) (hY : mo_Y N k) {y : Nat} (hy : 1 ≤ y ∧ y ≤ 24) (hd : 18 ≤ d) : mm_Di g zX11_compareWaiting d [.ref 0, .int (0), .int (nI (y))] sh_S (cN (w * h) n l k o r A N) (fun r_ J => r_ = op_check l k t J0 0 (nI y) ∧ ∃ A2, J = cN (w * h) n l k o r A2 N ∧ chF A A2) := by
  obtain ⟨hz1, hz2, hz3, hz4, hz5, hz6⟩ := id hz
  have hc := mo_W_c hW
  obtain ⟨-, -, hw1, hw2, hh1, hh2⟩ := id hW
  have h3 : sp_wi (nI y) 1 24 := (show sp_wi (nI y) (nI 1) (nI 24) from ⟨(nI_leI (by omega) (by omega)).mpr hy.1, (nI_leI (by omega) (by omega)).mpr hy.2⟩)
  refine mm_Di_of (fun Q hq => ?_)
  refine mm_begin (ls := [(0, .ref 0), (1, .int (0)), (2, .int (nI (y)))]) (Nat.le_of_ble_eq_true rfl) rfl rfl ?_
  refine mm_iload_n 1 dX11_compareWaiting_0 rfl rfl ?_
  refine mm_iconst (v := 0) dX11_compareWaiting_1 rfl ?_
  refine mm_iconst (v := 1) dX11_compareWaiting_2 rfl ?_
  refine mm_cS3i (dz := d - 1) dX11_compareWaiting_3 rfl mzX11_within ml_X11_63 imX11_within (by omega) cx_within (Nat.le_of_ble_eq_true rfl) ⟨Nat.le_refl _, Nat.le_refl _⟩ ?_
  refine mm_if_eqB (tgt := 19) dX11_compareWaiting_6 (by decide) (fun c6 => ?_) (fun c6 => ?_)
  · first | exact absurd ⟨by decide, by decide⟩ c6 | exact absurd h3 c16
  · refine mm_iload_n 2 dX11_compareWaiting_9 rfl rfl ?_
    refine mm_iconst (v := 1) dX11_compareWaiting_10 rfl ?_
    refine mm_bipush (v := 24) dX11_compareWaiting_11 rfl ?_
    refine mm_cS3i (dz := d - 1) dX11_compareWaiting_13 rfl mzX11_within ml_X11_63 imX11_within (by omega) cx_within (Nat.le_of_ble_eq_true rfl) ⟨Nat.le_refl _, Nat.le_refl _⟩ ?_
    refine mm_if_neB (tgt := 22) dX11_compareWaiting_16 (by decide) (fun c16 => ?_) (fun c16 => ?_)
    · refine mm_aload_n 0 dX11_compareWaiting_22 rfl rfl ?_
      refine mm_getr (b := 193) dX11_compareWaiting_23 rfl fk_X11_53 rfl so_0 sr_0_7 ?_
      refine mm_iconst (v := 0) dX11_compareWaiting_26 rfl ?_
      refine mm_cV1v (dz := d - 1) dX11_compareWaiting_27 rfl mzX5_shorten ml_X11_242 imX5_shorten (by omega) so_193 ⟨rfl, rfl⟩ (ct_short0 rw_193 (by omega)) (Nat.le_of_ble_eq_true rfl) ⟨Nat.le_refl _, Nat.le_refl _⟩ ?_
      refine mm_mem (J := cN (w * h) n l k o r (mm_up A 193 1 0) N) (cN_dof hz2 (by decide)) ?_
      refine mm_iload_n 1 dX11_compareWaiting_30 rfl rfl ?_
      refine mm_if_ne (tgt := 86) dX11_compareWaiting_31 (by decide) (fun q => absurd q (by decide)) (fun _ => ?_)
      refine mm_aload_n 0 dX11_compareWaiting_34 rfl rfl ?_
      refine mm_getr (b := 1) dX11_compareWaiting_35 rfl fk_X11_10 rfl so_0 sr_0_0 ?_
      refine mm_getr (b := 22) dX11_compareWaiting_38 rfl fk_X11_309 rfl so_1 sr_1_2 ?_
      refine mm_iload_n 2 dX11_compareWaiting_41 rfl rfl ?_
      refine mm_sipush (v := 20000) dX11_compareWaiting_42 rfl ?_
      refine mm_aload_n 0 dX11_compareWaiting_45 rfl rfl ?_
      refine mm_getr (b := 1) dX11_compareWaiting_46 rfl fk_X11_10 rfl so_0 sr_0_0 ?_
      refine mm_getr (b := 17) dX11_compareWaiting_49 rfl fk_X11_158 rfl so_1 sr_1_1 ?_
      refine mm_at (pc' := 52) rfl ?_
      refine mm_dV3i (dz := d - 1) dX11_compareWaiting_52 rfl mzX10_find ml_X11_322 imX10_find (by omega) so_22 ⟨rfl, rfl⟩ (cg_find hz hW (x := nI y) (q := 20000) (by omega) (by omega)) (Nat.le_of_ble_eq_true rfl) ⟨Nat.le_refl _, Nat.le_refl _⟩ (fun rr J2 hJ2 => ?_)
      obtain ⟨hr_, A2, rfl, hE2, hF2⟩ := hJ2
      subst hr_
      refine mm_istore_n (ls' := [(3, .int (fw (fp_s N l k (nI y) (nI 20000)))), (0, .ref 0), (1, .int (0)), (2, .int (nI (y)))]) dX11_compareWaiting_55 rfl (by decide) rfl ?_
      refine mm_iload_n 0 dX11_compareWaiting_56 rfl rfl ?_
      refine mm_if_ge (tgt := 62) dX11_compareWaiting_57 (by decide) (fun c57 => ?_) (fun c57 => ?_)
      · have hp0 := fw_p (s := (fp_s N l k (nI y) (nI 20000))) (by first | exact Int32.not_lt.mpr c57 | exact c57)
        have hpl : 0 ≤ (fp_s N l k (nI y) (nI 20000)).2.2.1 := by rw [← hp0.2]; first | exact c57 | exact Int32.not_lt.mp c57
        obtain ⟨hPV, heq⟩ := gd_fp (l := l) (tries := nI 20000) hz4 hy.2 hY hpl
        rw [heq] at hpl
        refine mm_aload_n 1 dX11_compareWaiting_62 rfl rfl ?_
        refine mm_getr (b := 1) dX11_compareWaiting_63 rfl fk_X11_10 rfl so_0 sr_0_0 ?_
        refine mm_getr (b := 22) dX11_compareWaiting_66 rfl fk_X11_309 rfl so_1 sr_1_2 ?_
        refine mm_aload_n 1 dX11_compareWaiting_69 rfl rfl ?_
        refine mm_getr (b := 1) dX11_compareWaiting_70 rfl fk_X11_10 rfl so_0 sr_0_0 ?_
        refine mm_getr (b := 17) dX11_compareWaiting_73 rfl fk_X11_158 rfl so_1 sr_1_1 ?_
        refine mm_aload_n 1 dX11_compareWaiting_76 rfl rfl ?_
        refine mm_getr (b := 193) dX11_compareWaiting_77 rfl fk_X11_53 rfl so_0 sr_0_7 ?_
        refine mm_at (pc' := 80) rfl ?_
        refine mm_dV2v (dz := d - 1) dX11_compareWaiting_80 rfl mzX10_listRows ml_X11_358 imX10_listRows (by omega) so_22 ⟨rfl, rfl⟩ (cg_lr hz hW (W := J0 204) (many := t) (best := (fp_s N l k (nI y) (nI 20000)).2.2.2.2) (bm := (fp_s N l k (nI y) (nI 20000)).2.2.2.1) (up := sp_pb N 0 l) (n_ := y) hy.2 hY hPV hE2.2.2.2.2.1.1 hE2.2.2.2.2.1.2.1 hE2.2.2.2.2.1.2.2 hE2.2.2.2.2.2.2.2 hE2.2.2.2.2.2.2.1 ((congrFun (hF2 193 (by decide)) 1).trans rfl) hpl (by omega)) (Nat.le_of_ble_eq_true rfl) ⟨Nat.le_refl _, Nat.le_refl _⟩ (fun J3 hJ3 => ?_)
        obtain ⟨A3, rfl, hU3, hF3⟩ := hJ3
        refine mm_goto (tgt := 101) dX11_compareWaiting_83 (by decide) ?_
        have hch : chF A A3 := chF_d (chF_w (chF_s A) hF2) hF3
        have hale := rw_al_le ((cN (w * h) n l k o r A3 N) 192) ((cN (w * h) n l k o r A3 N) 194) (min t (2 * y)) 0
        have e191 : A3 191 1 = nI t := (congrFun (hch 191 (by decide)) 1).trans ht
        refine mm_aload_n 1 dX11_compareWaiting_101 rfl rfl ?_
        refine mm_getr (b := 191) dX11_compareWaiting_102 rfl fk_X11_50 rfl so_0 sr_0_6 ?_
        refine mm_aload_n 1 dX11_compareWaiting_105 rfl rfl ?_
        refine mm_getr (b := 193) dX11_compareWaiting_106 rfl fk_X11_53 rfl so_0 sr_0_7 ?_
        refine mm_cV1i (dz := d - 1) dX11_compareWaiting_109 rfl mzX5_alike ml_X11_366 imX5_alike (by omega) so_191 ⟨rfl, rfl⟩ (ct_alike rw_191 rw_193 t (2 * y) ((cN_off hz2 (by decide)).trans e191) ((cN_off hz2 (by decide)).trans hU3.1) (by omega) (by omega) (by omega)) (Nat.le_of_ble_eq_true rfl) ⟨Nat.le_refl _, Nat.le_refl _⟩ ?_
        refine mm_istore_n (ls' := [(3, .int (nI (rw_al ((cN (w * h) n l k o r A3 N) 192) ((cN (w * h) n l k o r A3 N) 194) (min t (2 * y)) 0))), (0, .ref 0), (1, .int (0)), (2, .int (nI (y)))]) dX11_compareWaiting_112 rfl (by decide) rfl ?_
        refine mm_iload_n 0 dX11_compareWaiting_113 rfl rfl ?_
        refine mm_aload_n 1 dX11_compareWaiting_114 rfl rfl ?_
        refine mm_at (pc' := 115) rfl ?_
        refine mm_getr (b := 193) dX11_compareWaiting_115 rfl fk_X11_53 rfl so_0 sr_0_7 ?_
        refine mm_cV0i (dz := d - 1) dX11_compareWaiting_118 rfl mzX5_size ml_X11_236 imX5_size (by omega) so_193 ⟨rfl, rfl⟩ (ct_size rw_193) (Nat.le_of_ble_eq_true rfl) ⟨Nat.le_refl _, Nat.le_refl _⟩ ?_
        refine mm_top (v := nI (2 * y)) ((cN_off hz2 (by decide)).trans hU3.1) ?_
        refine mm_icmp_neN (rw_al ((cN (w * h) n l k o r A3 N) 192) ((cN (w * h) n l k o r A3 N) 194) (min t (2 * y)) 0) (2 * y) (tgt := 139) dX11_compareWaiting_121 (by decide) (by omega) (by omega) (fun c121 => ?_) (fun c121 => ?_)
        · refine mm_iconst (v := 1) dX11_compareWaiting_139 rfl ?_
          refine mm_iload_n 0 dX11_compareWaiting_140 rfl rfl ?_
          refine mm_iaddN (1) (rw_al ((cN (w * h) n l k o r A3 N) 192) ((cN (w * h) n l k o r A3 N) 194) (min t (2 * y)) 0) dX11_compareWaiting_141 ?_
          refine mm_iret dX11_compareWaiting_142 rfl ⟨Nat.le_refl _, Nat.le_refl _⟩ ?_
          refine hq _ _ ⟨?_, A3, rfl, hch⟩
          have hale := rw_al_le ((cN (w * h) n l k o r A3 N) 192) ((cN (w * h) n l k o r A3 N) 194) (min t (2 * y)) 0
          have hck := ckk_n (W := J0 204) (D := Dp N (J0 204) (fp_s N l k (nI y) (nI 20000)).2.2.2.2 (sp_pb N 0 l) t (fp_s N l k (nI y) (nI 20000)).2.2.2.1) (V := (cN (w * h) n l k o r A3 N) 192) (E := (cN (w * h) n l k o r A3 N) 194) (many := t) (q := 2 * y) (fun i hi => (cN_off hz2 (by decide)).trans ((congrFun (hch 192 (by decide)) i).trans (hWt i hi))) (fun i hi => (cN_off hz2 (by decide)).trans (hU3.2 i hi))
          rw [if_neg (by rintro ⟨q1, q2⟩; first | exact c121 q1 | exact c132 q2)] at hck
          refine hck.trans ?_
          subst hJ
          unfold op_check
          rw [if_neg (by intro q; rcases q with q | q; exact q ⟨by decide, by decide⟩; exact q h3), if_pos rfl, show (20000 : Int32) = nI 20000 from rfl, if_pos hp0.1, vv_nI (by omega), hp_L]
        · refine mm_iload_n 0 dX11_compareWaiting_124 rfl rfl ?_
          refine mm_aload_n 1 dX11_compareWaiting_125 rfl rfl ?_
          refine mm_getr (b := 191) dX11_compareWaiting_126 rfl fk_X11_50 rfl so_0 sr_0_6 ?_
          refine mm_cV0i (dz := d - 1) dX11_compareWaiting_129 rfl mzX5_size ml_X11_236 imX5_size (by omega) so_191 ⟨rfl, rfl⟩ (ct_size rw_191) (Nat.le_of_ble_eq_true rfl) ⟨Nat.le_refl _, Nat.le_refl _⟩ ?_
          refine mm_top (v := nI (t)) ((cN_off hz2 (by decide)).trans e191) ?_
          refine mm_icmp_neN (rw_al ((cN (w * h) n l k o r A3 N) 192) ((cN (w * h) n l k o r A3 N) 194) (min t (2 * y)) 0) (t) (tgt := 139) dX11_compareWaiting_132 (by decide) (by omega) (by omega) (fun c132 => ?_) (fun c132 => ?_)
          · refine mm_iconst (v := 1) dX11_compareWaiting_139 rfl ?_
            refine mm_iload_n 0 dX11_compareWaiting_140 rfl rfl ?_
            refine mm_iaddN (1) (rw_al ((cN (w * h) n l k o r A3 N) 192) ((cN (w * h) n l k o r A3 N) 194) (min t (2 * y)) 0) dX11_compareWaiting_141 ?_
            refine mm_iret dX11_compareWaiting_142 rfl ⟨Nat.le_refl _, Nat.le_refl _⟩ ?_
            refine hq _ _ ⟨?_, A3, rfl, hch⟩
            have hale := rw_al_le ((cN (w * h) n l k o r A3 N) 192) ((cN (w * h) n l k o r A3 N) 194) (min t (2 * y)) 0
            have hck := ckk_n (W := J0 204) (D := Dp N (J0 204) (fp_s N l k (nI y) (nI 20000)).2.2.2.2 (sp_pb N 0 l) t (fp_s N l k (nI y) (nI 20000)).2.2.2.1) (V := (cN (w * h) n l k o r A3 N) 192) (E := (cN (w * h) n l k o r A3 N) 194) (many := t) (q := 2 * y) (fun i hi => (cN_off hz2 (by decide)).trans ((congrFun (hch 192 (by decide)) i).trans (hWt i hi))) (fun i hi => (cN_off hz2 (by decide)).trans (hU3.2 i hi))
            rw [if_neg (by rintro ⟨q1, q2⟩; first | exact c121 q1 | exact c132 q2)] at hck
            refine hck.trans ?_
            subst hJ
            unfold op_check
            rw [if_neg (by intro q; rcases q with q | q; exact q ⟨by decide, by decide⟩; exact q h3), if_pos rfl, show (20000 : Int32) = nI 20000 from rfl, if_pos hp0.1, vv_nI (by omega), hp_L]
          · refine mm_iconst (v := 0) dX11_compareWaiting_135 rfl ?_
            refine mm_goto (tgt := 142) dX11_compareWaiting_136 (by decide) ?_
            refine mm_iret dX11_compareWaiting_142 rfl ⟨Nat.le_refl _, Nat.le_refl _⟩ ?_
            refine hq _ _ ⟨?_, A3, rfl, hch⟩
            have hale := rw_al_le ((cN (w * h) n l k o r A3 N) 192) ((cN (w * h) n l k o r A3 N) 194) (min t (2 * y)) 0
            have hck := ckk_n (W := J0 204) (D := Dp N (J0 204) (fp_s N l k (nI y) (nI 20000)).2.2.2.2 (sp_pb N 0 l) t (fp_s N l k (nI y) (nI 20000)).2.2.2.1) (V := (cN (w * h) n l k o r A3 N) 192) (E := (cN (w * h) n l k o r A3 N) 194) (many := t) (q := 2 * y) (fun i hi => (cN_off hz2 (by decide)).trans ((congrFun (hch 192 (by decide)) i).trans (hWt i hi))) (fun i hi => (cN_off hz2 (by decide)).trans (hU3.2 i hi))
            rw [if_pos ⟨by first | exact c121 | omega, by first | exact c132 | omega⟩] at hck
            refine hck.trans ?_
            subst hJ
            unfold op_check
            rw [if_neg (by intro q; rcases q with q | q; exact q ⟨by decide, by decide⟩; exact q h3), if_pos rfl, show (20000 : Int32) = nI 20000 from rfl, if_pos hp0.1, vv_nI (by omega), hp_L]
      · refine mm_iload_n 0 dX11_compareWaiting_60 rfl rfl ?_
        refine mm_iret dX11_compareWaiting_61 rfl ⟨Nat.le_refl _, Nat.le_refl _⟩ ?_
        refine hq _ _ ⟨?_, A2, rfl, chF_w (chF_s A) hF2⟩
        subst hJ
        unfold op_check
        rw [if_neg (by intro q; rcases q with q | q; exact q ⟨by decide, by decide⟩; exact q h3), if_pos rfl, show (20000 : Int32) = nI 20000 from rfl, if_neg (fw_n (by first | exact c57 | exact Int32.not_le.mp c57)).1]
        exact (fw_n (by first | exact c57 | exact Int32.not_le.mp c57)).2
    · first | exact absurd ⟨by decide, by decide⟩ c6 | exact absurd h3 c16
set_option maxRecDepth 100000 in
set_option maxHeartbeats 600000 in
theorem cg_cw1 {g : mm_G} {d : Nat} {w h n l k o r : Nat} {A : mm_I} {N : Nat → Int32} (hz : zOK (w * h) n l k o r) (hW : mo_W N w h) {J0 : mm_I} (hJ : J0 201 = N) {t : Nat} (ht : A 191 1 = nI t) (ht1 : t ≤ 100) (hWt : ∀ i, i < t → A 192 i = J0 204 i) (hH : mo_H N l) (hB : 0 ≤ N 4) (hY : mo_Y N k) {y : Nat} (hy : 1 ≤ y ∧ y ≤ 24) (hd : 18 ≤ d) : mm_Di g zX11_compareWaiting d [.ref 0, .int (1), .int (nI (y))] sh_S (cN (w * h) n l k o r A N) (fun r_ J => r_ = op_check l k t J0 1 (nI y) ∧ ∃ A2, J = cN (w * h) n l k o r A2 N ∧ chF A A2) := by
  obtain ⟨hz1, hz2, hz3, hz4, hz5, hz6⟩ := id hz
  have hc := mo_W_c hW
  obtain ⟨-, -, hw1, hw2, hh1, hh2⟩ := id hW
  have h3 : sp_wi (nI y) 1 24 := (show sp_wi (nI y) (nI 1) (nI 24) from ⟨(nI_leI (by omega) (by omega)).mpr hy.1, (nI_leI (by omega) (by omega)).mpr hy.2⟩)
  refine mm_Di_of (fun Q hq => ?_)
  refine mm_begin (ls := [(0, .ref 0), (1, .int (1)), (2, .int (nI (y)))]) (Nat.le_of_ble_eq_true rfl) rfl rfl ?_
  refine mm_iload_n 1 dX11_compareWaiting_0 rfl rfl ?_
  refine mm_iconst (v := 0) dX11_compareWaiting_1 rfl ?_
  refine mm_iconst (v := 1) dX11_compareWaiting_2 rfl ?_
  refine mm_cS3i (dz := d - 1) dX11_compareWaiting_3 rfl mzX11_within ml_X11_63 imX11_within (by omega) cx_within (Nat.le_of_ble_eq_true rfl) ⟨Nat.le_refl _, Nat.le_refl _⟩ ?_
  refine mm_if_eqB (tgt := 19) dX11_compareWaiting_6 (by decide) (fun c6 => ?_) (fun c6 => ?_)
  · first | exact absurd ⟨by decide, by decide⟩ c6 | exact absurd h3 c16
  · refine mm_iload_n 2 dX11_compareWaiting_9 rfl rfl ?_
    refine mm_iconst (v := 1) dX11_compareWaiting_10 rfl ?_
    refine mm_bipush (v := 24) dX11_compareWaiting_11 rfl ?_
    refine mm_cS3i (dz := d - 1) dX11_compareWaiting_13 rfl mzX11_within ml_X11_63 imX11_within (by omega) cx_within (Nat.le_of_ble_eq_true rfl) ⟨Nat.le_refl _, Nat.le_refl _⟩ ?_
    refine mm_if_neB (tgt := 22) dX11_compareWaiting_16 (by decide) (fun c16 => ?_) (fun c16 => ?_)
    · refine mm_aload_n 0 dX11_compareWaiting_22 rfl rfl ?_
      refine mm_getr (b := 193) dX11_compareWaiting_23 rfl fk_X11_53 rfl so_0 sr_0_7 ?_
      refine mm_iconst (v := 0) dX11_compareWaiting_26 rfl ?_
      refine mm_cV1v (dz := d - 1) dX11_compareWaiting_27 rfl mzX5_shorten ml_X11_242 imX5_shorten (by omega) so_193 ⟨rfl, rfl⟩ (ct_short0 rw_193 (by omega)) (Nat.le_of_ble_eq_true rfl) ⟨Nat.le_refl _, Nat.le_refl _⟩ ?_
      refine mm_mem (J := cN (w * h) n l k o r (mm_up A 193 1 0) N) (cN_dof hz2 (by decide)) ?_
      refine mm_iload_n 1 dX11_compareWaiting_30 rfl rfl ?_
      refine mm_if_ne (tgt := 86) dX11_compareWaiting_31 (by decide) (fun _ => ?_) (fun q => absurd q (by decide))
      refine mm_aload_n 0 dX11_compareWaiting_86 rfl rfl ?_
      refine mm_getr (b := 1) dX11_compareWaiting_87 rfl fk_X11_10 rfl so_0 sr_0_0 ?_
      refine mm_getr (b := 17) dX11_compareWaiting_90 rfl fk_X11_158 rfl so_1 sr_1_1 ?_
      refine mm_iload_n 2 dX11_compareWaiting_93 rfl rfl ?_
      refine mm_aload_n 0 dX11_compareWaiting_94 rfl rfl ?_
      refine mm_getr (b := 193) dX11_compareWaiting_95 rfl fk_X11_53 rfl so_0 sr_0_7 ?_
      refine mm_dV2v (dz := d - 1) dX11_compareWaiting_98 rfl mzX3_listNight ml_X11_362 imX3_listNight (by omega) so_17 ⟨rfl, rfl⟩ (cg_ln hz hW hH hB (x := y) hy.2 mm_up_at (by omega)) (Nat.le_of_ble_eq_true rfl) ⟨Nat.le_refl _, Nat.le_refl _⟩ (fun J3 hJ3 => ?_)
      obtain ⟨A3, rfl, hU3, hF3⟩ := hJ3
      have hch : chF A A3 := chF_d (chF_s A) hF3
      have hale := rw_al_le ((cN (w * h) n l k o r A3 N) 192) ((cN (w * h) n l k o r A3 N) 194) (min t (y)) 0
      have e191 : A3 191 1 = nI t := (congrFun (hch 191 (by decide)) 1).trans ht
      refine mm_aload_n 0 dX11_compareWaiting_101 rfl rfl ?_
      refine mm_at (pc' := 102) rfl ?_
      refine mm_getr (b := 191) dX11_compareWaiting_102 rfl fk_X11_50 rfl so_0 sr_0_6 ?_
      refine mm_aload_n 0 dX11_compareWaiting_105 rfl rfl ?_
      refine mm_getr (b := 193) dX11_compareWaiting_106 rfl fk_X11_53 rfl so_0 sr_0_7 ?_
      refine mm_cV1i (dz := d - 1) dX11_compareWaiting_109 rfl mzX5_alike ml_X11_366 imX5_alike (by omega) so_191 ⟨rfl, rfl⟩ (ct_alike rw_191 rw_193 t (y) ((cN_off hz2 (by decide)).trans e191) ((cN_off hz2 (by decide)).trans hU3.1) (by omega) (by omega) (by omega)) (Nat.le_of_ble_eq_true rfl) ⟨Nat.le_refl _, Nat.le_refl _⟩ ?_
      refine mm_istore_n (ls' := [(3, .int (nI (rw_al ((cN (w * h) n l k o r A3 N) 192) ((cN (w * h) n l k o r A3 N) 194) (min t (y)) 0))), (0, .ref 0), (1, .int (1)), (2, .int (nI (y)))]) dX11_compareWaiting_112 rfl (by decide) rfl ?_
      refine mm_iload_n 0 dX11_compareWaiting_113 rfl rfl ?_
      refine mm_aload_n 1 dX11_compareWaiting_114 rfl rfl ?_
      refine mm_getr (b := 193) dX11_compareWaiting_115 rfl fk_X11_53 rfl so_0 sr_0_7 ?_
      refine mm_at (pc' := 118) rfl ?_
      refine mm_cV0i (dz := d - 1) dX11_compareWaiting_118 rfl mzX5_size ml_X11_236 imX5_size (by omega) so_193 ⟨rfl, rfl⟩ (ct_size rw_193) (Nat.le_of_ble_eq_true rfl) ⟨Nat.le_refl _, Nat.le_refl _⟩ ?_
      refine mm_top (v := nI (y)) ((cN_off hz2 (by decide)).trans hU3.1) ?_
      refine mm_icmp_neN (rw_al ((cN (w * h) n l k o r A3 N) 192) ((cN (w * h) n l k o r A3 N) 194) (min t (y)) 0) (y) (tgt := 139) dX11_compareWaiting_121 (by decide) (by omega) (by omega) (fun c121 => ?_) (fun c121 => ?_)
      · refine mm_iconst (v := 1) dX11_compareWaiting_139 rfl ?_
        refine mm_iload_n 0 dX11_compareWaiting_140 rfl rfl ?_
        refine mm_iaddN (1) (rw_al ((cN (w * h) n l k o r A3 N) 192) ((cN (w * h) n l k o r A3 N) 194) (min t (y)) 0) dX11_compareWaiting_141 ?_
        refine mm_iret dX11_compareWaiting_142 rfl ⟨Nat.le_refl _, Nat.le_refl _⟩ ?_
        refine hq _ _ ⟨?_, A3, rfl, hch⟩
        have hale := rw_al_le ((cN (w * h) n l k o r A3 N) 192) ((cN (w * h) n l k o r A3 N) 194) (min t (y)) 0
        have hck := ckk_n (W := J0 204) (D := (fun t => N 4 - sp_pb N (sp_fc N l (nI y) (2 ^ l)) l * nI (t + 1))) (V := (cN (w * h) n l k o r A3 N) 192) (E := (cN (w * h) n l k o r A3 N) 194) (many := t) (q := y) (fun i hi => (cN_off hz2 (by decide)).trans ((congrFun (hch 192 (by decide)) i).trans (hWt i hi))) (fun i hi => (cN_off hz2 (by decide)).trans (hU3.2 i hi))
        rw [if_neg (by rintro ⟨q1, q2⟩; first | exact c121 q1 | exact c132 q2)] at hck
        refine hck.trans ?_
        subst hJ
        unfold op_check
        rw [if_neg (by intro q; rcases q with q | q; exact q ⟨by decide, by decide⟩; exact q h3), if_neg (by decide), vv_nI (by omega), nt_L]
      · refine mm_iload_n 0 dX11_compareWaiting_124 rfl rfl ?_
        refine mm_aload_n 1 dX11_compareWaiting_125 rfl rfl ?_
        refine mm_getr (b := 191) dX11_compareWaiting_126 rfl fk_X11_50 rfl so_0 sr_0_6 ?_
        refine mm_cV0i (dz := d - 1) dX11_compareWaiting_129 rfl mzX5_size ml_X11_236 imX5_size (by omega) so_191 ⟨rfl, rfl⟩ (ct_size rw_191) (Nat.le_of_ble_eq_true rfl) ⟨Nat.le_refl _, Nat.le_refl _⟩ ?_
        refine mm_top (v := nI (t)) ((cN_off hz2 (by decide)).trans e191) ?_
        refine mm_icmp_neN (rw_al ((cN (w * h) n l k o r A3 N) 192) ((cN (w * h) n l k o r A3 N) 194) (min t (y)) 0) (t) (tgt := 139) dX11_compareWaiting_132 (by decide) (by omega) (by omega) (fun c132 => ?_) (fun c132 => ?_)
        · refine mm_iconst (v := 1) dX11_compareWaiting_139 rfl ?_
          refine mm_iload_n 0 dX11_compareWaiting_140 rfl rfl ?_
          refine mm_iaddN (1) (rw_al ((cN (w * h) n l k o r A3 N) 192) ((cN (w * h) n l k o r A3 N) 194) (min t (y)) 0) dX11_compareWaiting_141 ?_
          refine mm_iret dX11_compareWaiting_142 rfl ⟨Nat.le_refl _, Nat.le_refl _⟩ ?_
          refine hq _ _ ⟨?_, A3, rfl, hch⟩
          have hale := rw_al_le ((cN (w * h) n l k o r A3 N) 192) ((cN (w * h) n l k o r A3 N) 194) (min t (y)) 0
          have hck := ckk_n (W := J0 204) (D := (fun t => N 4 - sp_pb N (sp_fc N l (nI y) (2 ^ l)) l * nI (t + 1))) (V := (cN (w * h) n l k o r A3 N) 192) (E := (cN (w * h) n l k o r A3 N) 194) (many := t) (q := y) (fun i hi => (cN_off hz2 (by decide)).trans ((congrFun (hch 192 (by decide)) i).trans (hWt i hi))) (fun i hi => (cN_off hz2 (by decide)).trans (hU3.2 i hi))
          rw [if_neg (by rintro ⟨q1, q2⟩; first | exact c121 q1 | exact c132 q2)] at hck
          refine hck.trans ?_
          subst hJ
          unfold op_check
          rw [if_neg (by intro q; rcases q with q | q; exact q ⟨by decide, by decide⟩; exact q h3), if_neg (by decide), vv_nI (by omega), nt_L]
        · refine mm_iconst (v := 0) dX11_compareWaiting_135 rfl ?_
          refine mm_goto (tgt := 142) dX11_compareWaiting_136 (by decide) ?_
          refine mm_iret dX11_compareWaiting_142 rfl ⟨Nat.le_refl _, Nat.le_refl _⟩ ?_
          refine hq _ _ ⟨?_, A3, rfl, hch⟩
          have hale := rw_al_le ((cN (w * h) n l k o r A3 N) 192) ((cN (w * h) n l k o r A3 N) 194) (min t (y)) 0
          have hck := ckk_n (W := J0 204) (D := (fun t => N 4 - sp_pb N (sp_fc N l (nI y) (2 ^ l)) l * nI (t + 1))) (V := (cN (w * h) n l k o r A3 N) 192) (E := (cN (w * h) n l k o r A3 N) 194) (many := t) (q := y) (fun i hi => (cN_off hz2 (by decide)).trans ((congrFun (hch 192 (by decide)) i).trans (hWt i hi))) (fun i hi => (cN_off hz2 (by decide)).trans (hU3.2 i hi))
          rw [if_pos ⟨by first | exact c121 | omega, by first | exact c132 | omega⟩] at hck
          refine hck.trans ?_
          subst hJ
          unfold op_check
          rw [if_neg (by intro q; rcases q with q | q; exact q ⟨by decide, by decide⟩; exact q h3), if_neg (by decide), vv_nI (by omega), nt_L]
    · first | exact absurd ⟨by decide, by decide⟩ c6 | exact absurd h3 c16
theorem cg_cw {g : mm_G} {d : Nat} {w h n l k o r : Nat} {A : mm_I} {N : Nat → Int32} (hz : zOK (w * h) n l k o r) (hW : mo_W N w h) {J0 : mm_I} (hJ : J0 201 = N) {t : Nat} (ht : A 191 1 = nI t) (ht1 : t ≤ 100) (hWt : ∀ i, i < t → A 192 i = J0 204 i) (hH : mo_H N l) (hB : 0 ≤ N 4) (hY : mo_Y N k) {x y : Int32} (hd : 18 ≤ d) : mm_Di g zX11_compareWaiting d [.ref 0, .int x, .int y] sh_S (cN (w * h) n l k o r A N) (fun r_ J => r_ = op_check l k t J0 x y ∧ ∃ A2, J = cN (w * h) n l k o r A2 N ∧ chF A A2) := by
  by_cases c : ¬ sp_wi x 0 1 ∨ ¬ sp_wi y 1 24
  · exact mm_Ci_Di (cg_cwB hz hW c (by omega)) ⟨by unfold op_check; rw [if_pos c], A, rfl, chF_0 A⟩
  · have c1 : sp_wi x 0 1 := Decidable.not_not.mp (fun q => c (Or.inl q))
    have c2 : sp_wi y 1 24 := Decidable.not_not.mp (fun q => c (Or.inr q))
    obtain ⟨z, hz1, rfl⟩ := sp_wi_nat 1 (by decide) c1
    obtain ⟨v, hv, rfl⟩ := sp_wi_n 1 24 (by decide) (by decide) c2
    rcases show z = 0 ∨ z = 1 by omega with e | e <;> subst e
    · exact cg_cw0 hz hW hJ ht ht1 hWt hH hB hY hv hd
    · exact cg_cw1 hz hW hJ ht ht1 hWt hH hB hY hv hd
set_option maxRecDepth 100000 in
set_option maxHeartbeats 600000 in
theorem cb_check {g : mm_G} {d : Nat} {w h n l k o r : Nat} {A : mm_I} {N : Nat → Int32} (hz : zOK (w * h) n l k o r) (hW : mo_W N w h) {J0 : mm_I} (hJ : J0 201 = N) {t : Nat} (ht : A 191 1 = nI t) (ht1 : t ≤ 100) (hWt : ∀ i, i < t → A 192 i = J0 204 i) (hH : mo_H N l) (hB : 0 ≤ N 4) (hY : mo_Y N k) {x y : Int32} (hd : 19 ≤ d) : mm_Di g zX11_check d [.ref 0, .int (x), .int (y)] sh_S (cN (w * h) n l k o r A N) (fun r_ J => r_ = op_check l k t J0 x y ∧ ∃ A2, J = cN (w * h) n l k o r A2 N ∧ A2 191 1 = 0 ∧ ∀ a, ¬ (a = 22 ∨ (31 ≤ a ∧ a ≤ 34) ∨ a = 191 ∨ a = 193 ∨ a = 194) → A2 a = A a) := by
  obtain ⟨hz1, hz2, hz3, hz4, hz5, hz6⟩ := id hz
  have hc := mo_W_c hW
  obtain ⟨-, -, hw1, hw2, hh1, hh2⟩ := id hW
  refine mm_Di_of (fun Q hq => ?_)
  refine mm_begin (ls := [(0, .ref 0), (1, .int (x)), (2, .int (y))]) (Nat.le_of_ble_eq_true rfl) rfl rfl ?_
  refine mm_aload_n 0 dX11_check_0 rfl rfl ?_
  refine mm_iload_n 1 dX11_check_1 rfl rfl ?_
  refine mm_iload_n 2 dX11_check_2 rfl rfl ?_
  refine mm_dV2i (dz := d - 1) dX11_check_3 rfl mzX11_compareWaiting ml_X11_332 imX11_compareWaiting (by omega) so_0 ⟨rfl, rfl⟩ (cg_cw hz hW hJ ht ht1 hWt hH hB hY (by omega)) (Nat.le_of_ble_eq_true rfl) ⟨Nat.le_refl _, Nat.le_refl _⟩ (fun rr J2 hJ2 => ?_)
  obtain ⟨hr_, A2, rfl, hF2⟩ := hJ2
  subst hr_
  refine mm_istore_n (ls' := [(3, .int (op_check l k t J0 x y)), (0, .ref 0), (1, .int (x)), (2, .int (y))]) dX11_check_6 rfl (by decide) rfl ?_
  refine mm_aload_n 1 dX11_check_7 rfl rfl ?_
  refine mm_getr (b := 191) dX11_check_8 rfl fk_X11_50 rfl so_0 sr_0_6 ?_
  refine mm_iconst (v := 0) dX11_check_11 rfl ?_
  refine mm_at (pc' := 12) rfl ?_
  refine mm_cV1v (dz := d - 1) dX11_check_12 rfl mzX5_shorten ml_X11_242 imX5_shorten (by omega) so_191 ⟨rfl, rfl⟩ (ct_short0 rw_191 (by omega)) (Nat.le_of_ble_eq_true rfl) ⟨Nat.le_refl _, Nat.le_refl _⟩ ?_
  refine mm_iload_n 0 dX11_check_15 rfl rfl ?_
  refine mm_iret dX11_check_16 rfl ⟨Nat.le_refl _, Nat.le_refl _⟩ ?_
  refine hq _ _ ⟨rfl, mm_up A2 191 1 0, cN_dof hz2 (by decide), mm_up_at, fun a ha => ?_⟩
  rw [mm_up_a (by omega)]; exact hF2 a (by omega)
