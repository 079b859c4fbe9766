/-! THE CLASS: land -/
theorem i_sa {a b c : Int32} : a + b - c = a + (b - c) := by rw [Int32.sub_eq_add_neg, Int32.sub_eq_add_neg, Int32.add_assoc]
set_option maxRecDepth 100000 in
set_option maxHeartbeats 600000 in
theorem dk_sh {g : mm_G} {d : Nat} {w h n l k o r : Nat} {A : mm_I} {N : Nat → Int32} (hz : zOK (w * h) n l k o r) (hW : mo_W N w h) {Q : Option Value → mm_Sh → mm_I → Prop} {b : Nat} (hb : b < w * h) (hC : mo_C N n (w * h)) (hd : 2 ≤ d) (hq : Q (some (.int (sp_ls N w (nI b) n))) sh_S (cN (w * h) n l k o r A (lwN N w (nI b) n))) : ∀ (m : Nat) (i : Nat), (i ≤ n) → n - i < m → mm_Ex g zX8_shake d (0, 0) (0, 0) sh_S (cN (w * h) n l k o r A (lwN N w (nI b) i)) 4 [(3, .int (nI (i))), (2, .int (sp_ls N w (nI b) i)), (0, .ref 1), (1, .int (nI (b)))] [] Q := by
  obtain ⟨hz1, hz2, hz3, hz4, hz5, hz6⟩ := id hz
  have hc := mo_W_c hW
  obtain ⟨-, -, hw1, hw2, hh1, hh2⟩ := id hW
  intro m
  induction m with
  | zero => intro i hi hmz; exact absurd hmz (Nat.not_lt_zero _)
  | succ m ih =>
    intro i hi hmz
    have hWi := (show mo_W (lwN N w (nI b) i) w h from ⟨(lwN_ne i (fun q _ => by omega)).trans hW.1, (lwN_ne i (fun q _ => by omega)).trans hW.2.1, hW.2.2⟩)
    refine mm_iload_n 0 dX8_shake_4 rfl rfl ?_
    refine mm_aload_n 2 dX8_shake_5 rfl rfl ?_
    refine mm_geti dX8_shake_6 rfl fk_X8_39 rfl so_1 ?_
    refine mm_top (v := nI (n)) s_n ?_
    refine mm_icmp_geN (i) (n) (tgt := 73) dX8_shake_9 (by decide) (by omega) (by omega) (fun c9 => ?_) (fun c9 => ?_)
    · refine mm_iload_n 1 dX8_shake_73 rfl rfl ?_
      refine mm_iret dX8_shake_74 rfl ⟨Nat.le_refl _, Nat.le_refl _⟩ ?_
      have e : i = n := by omega
      subst e; exact hq
    · obtain ⟨x, hxw, hx⟩ := hC i (by omega)
      have hple := apN_le (w := w) (h := h) (a := x) (b := b) hw1 hw2 hh2 hxw hb
      refine mm_aload_n 2 dX8_shake_12 rfl rfl ?_
      refine mm_iload_n 0 dX8_shake_13 rfl rfl ?_
      refine mm_cV1r (dz := d - 1) dX8_shake_14 rfl mzX8_worker ml_X8_79 imX8_worker (by omega) so_1 ⟨rfl, rfl⟩ (cg_worker hz hWi (m := i) (by omega)) (Nat.le_of_ble_eq_true rfl) ⟨Nat.le_refl _, Nat.le_refl _⟩ ?_
      refine mm_astore (ls' := [(4, .ref (36 + 3 * i)), (3, .int (nI (i))), (2, .int (sp_ls N w (nI b) i)), (0, .ref 1), (1, .int (nI (b)))]) dX8_shake_17 (by decide) rfl ?_
      refine mm_aload 0 dX8_shake_19 rfl ?_
      refine mm_ifnull dX8_shake_21 ?_
      refine mm_aload_n 3 dX8_shake_24 rfl rfl ?_
      refine mm_at (pc' := 25) rfl ?_
      refine mm_getr (b := 2) dX8_shake_25 rfl fk_X8_12 rfl so_1 sr_1_0 ?_
      refine mm_aload 0 dX8_shake_28 rfl ?_
      refine mm_geti dX8_shake_30 rfl fk_X8_96 rfl (sm_1 (show i < 5 by omega)).1 ?_
      refine mm_top (v := nI (x)) ((s_m (by omega) (by omega) (by omega)).trans ((lwN_ne i (fun q _ => by omega)).trans hx)) ?_
      refine mm_iload_n 4 dX8_shake_33 rfl rfl ?_
      refine mm_cV2i (dz := d - 1) dX8_shake_34 rfl mzX0_apart ml_X8_129 imX0_apart (by omega) so_2 ⟨rfl, rfl⟩ (cg_apart hz hWi (a := x) (b := b) (by omega) (by omega) (by omega)) (Nat.le_of_ble_eq_true rfl) ⟨Nat.le_refl _, Nat.le_refl _⟩ ?_
      refine mm_iconst (v := 3) dX8_shake_37 rfl ?_
      refine mm_icmp_geN (apN w x b) (3) (tgt := 67) dX8_shake_38 (by decide) (by omega) (by omega) (fun c38 => ?_) (fun c38 => ?_)
      · refine mm_iincN (ls' := [(3, .int (nI (i + 1))), (4, .ref (36 + 3 * i)), (2, .int (sp_ls N w (nI b) i)), (0, .ref 1), (1, .int (nI (b)))]) 1 (i) 1 dX8_shake_67 rfl rfl (by decide) rfl ?_
        refine mm_goto (tgt := 4) dX8_shake_70 (by decide) ?_
        have hh := ih (i + 1) (by omega) (by omega)
        have hap := ap_n (a := b) (b := x) hw1 hw2 hh2 hb hxw hc.2
        have eyes : 3 ≤ sp_ap w (nI b) (N (630 + 40 * i + 1)) := by rw [hx, hap, apN_c]; exact (nI_leI (a := 3) (by omega) (by omega)).mpr (by omega)
        rw [show lwN N w (nI b) (i + 1) = lwN N w (nI b) i from if_pos eyes, show sp_ls N w (nI b) (i + 1) = sp_ls N w (nI b) i from if_pos eyes] at hh
        exact mm_sub [0, 2, 3, 4] rfl hh
      · refine mm_iload_n 2 dX8_shake_41 rfl rfl ?_
        refine mm_aload 0 dX8_shake_42 rfl ?_
        refine mm_bipush (v := 20) dX8_shake_44 rfl ?_
        refine mm_iconst (v := 5) dX8_shake_46 rfl ?_
        refine mm_aload_n 3 dX8_shake_47 rfl rfl ?_
        refine mm_getr (b := 2) dX8_shake_48 rfl fk_X8_12 rfl so_1 sr_1_0 ?_
        refine mm_aload 0 dX8_shake_51 rfl ?_
        refine mm_at (pc' := 53) rfl ?_
        refine mm_geti dX8_shake_53 rfl fk_X8_96 rfl (sm_1 (show i < 5 by omega)).1 ?_
        refine mm_top (v := nI (x)) ((s_m (by omega) (by omega) (by omega)).trans ((lwN_ne i (fun q _ => by omega)).trans hx)) ?_
        refine mm_iload_n 4 dX8_shake_56 rfl rfl ?_
        refine mm_cV2i (dz := d - 1) dX8_shake_57 rfl mzX0_apart ml_X8_129 imX0_apart (by omega) so_2 ⟨rfl, rfl⟩ (cg_apart hz hWi (a := x) (b := b) (by omega) (by omega) (by omega)) (Nat.le_of_ble_eq_true rfl) ⟨Nat.le_refl _, Nat.le_refl _⟩ ?_
        refine mm_imulN (5) (apN w x b) dX8_shake_60 ?_
        refine mm_isub dX8_shake_61 ?_
        refine mm_cV1i (dz := d - 1) dX8_shake_62 rfl mzX1_addWear ml_X8_133 imX1_addWear (by omega) (sm_1 (show i < 5 by omega)).1 ⟨rfl, rfl⟩ (cg_wear hz hWi (m := i) (by omega) (by omega)) (Nat.le_of_ble_eq_true rfl) ⟨Nat.le_refl _, Nat.le_refl _⟩ ?_
        refine mm_iadd dX8_shake_65 ?_
        refine mm_istore_n (ls' := [(2, .int ((sp_ls N w (nI b) i) + (sp_min 100 ((lwN N w (nI b) i) (630 + 40 * i + 3) + (20 - nI (5 * apN w x b))) - (lwN N w (nI b) i) (630 + 40 * i + 3)))), (4, .ref (36 + 3 * i)), (3, .int (nI (i))), (0, .ref 1), (1, .int (nI (b)))]) dX8_shake_66 rfl (by decide) rfl ?_
        refine mm_at (pc' := 67) rfl ?_
        refine mm_iincN (ls' := [(3, .int (nI (i + 1))), (2, .int ((sp_ls N w (nI b) i) + (sp_min 100 ((lwN N w (nI b) i) (630 + 40 * i + 3) + (20 - nI (5 * apN w x b))) - (lwN N w (nI b) i) (630 + 40 * i + 3)))), (4, .ref (36 + 3 * i)), (0, .ref 1), (1, .int (nI (b)))]) 2 (i) 1 dX8_shake_67 rfl rfl (by decide) rfl ?_
        refine mm_goto (tgt := 4) dX8_shake_70 (by decide) ?_
        have hh := ih (i + 1) (by omega) (by omega)
        have hap := ap_n (a := b) (b := x) hw1 hw2 hh2 hb hxw hc.2
        have e3 : (lwN N w (nI b) i) (630 + 40 * i + 3) = N (630 + 40 * i + 3) := lwN_ne i (fun q _ => by omega)
        have ew : sp_lw N w (nI b) i = sp_min 100 (N (630 + 40 * i + 3) + (20 - nI (5 * apN w x b))) := by unfold sp_lw; rw [hx, hap, apN_c, i_sa, show (5 : Int32) * nI (apN w x b) = nI (5 * apN w x b) from pk_mul 5 _]
        have eno : ¬ 3 ≤ sp_ap w (nI b) (N (630 + 40 * i + 1)) := by rw [hx, hap, apN_c]; exact fun q => absurd ((nI_leI (a := 3) (by omega) (by omega)).mp q) (by omega)
        rw [show lwN N w (nI b) (i + 1) = upd (lwN N w (nI b) i) (630 + 40 * i + 3) (sp_lw N w (nI b) i) from if_neg eno, show sp_ls N w (nI b) (i + 1) = sp_ls N w (nI b) i + (sp_lw N w (nI b) i - N (630 + 40 * i + 3)) from if_neg eno, ew] at hh
        rw [e3]
        exact mm_sub [0, 1, 3, 4] rfl hh
set_option maxRecDepth 100000 in
set_option maxHeartbeats 600000 in
theorem cg_shake {g : mm_G} {d : Nat} {w h n l k o r : Nat} {A : mm_I} {N : Nat → Int32} (hz : zOK (w * h) n l k o r) (hW : mo_W N w h) {b : Nat} (hb : b < w * h) (hC : mo_C N n (w * h)) (hd : 2 ≤ d) : mm_Ci g zX8_shake d [.ref 1, .int (nI (b))] sh_S (cN (w * h) n l k o r A N) (sp_ls N w (nI b) n) (cN (w * h) n l k o r A (lwN N w (nI b) n)) := by
  obtain ⟨hz1, hz2, hz3, hz4, hz5, hz6⟩ := id hz
  have hc := mo_W_c hW
  obtain ⟨-, -, hw1, hw2, hh1, hh2⟩ := id hW
  refine mm_Ci_of (fun Q hq => ?_)
  refine mm_begin (ls := [(0, .ref 1), (1, .int (nI (b)))]) (Nat.le_of_ble_eq_true rfl) rfl rfl ?_
  refine mm_iconst (v := 0) dX8_shake_0 rfl ?_
  refine mm_istore_n (ls' := [(2, .int (0)), (0, .ref 1), (1, .int (nI (b)))]) dX8_shake_1 rfl (by decide) rfl ?_
  refine mm_iconst (v := 0) dX8_shake_2 rfl ?_
  refine mm_istore_n (ls' := [(3, .int (0)), (2, .int (0)), (0, .ref 1), (1, .int (nI (b)))]) dX8_shake_3 rfl (by decide) rfl ?_
  exact mm_sub [0, 1, 2, 3] rfl (dk_sh hz hW hb hC hd hq (n + 1) 0 (by omega) (by omega))
set_option maxRecDepth 100000 in
set_option maxHeartbeats 600000 in
theorem cb_landB {g : mm_G} {d : Nat} {w h n l k o r : Nat} {A : mm_I} {N : Nat → Int32} (hz : zOK (w * h) n l k o r) (hW : mo_W N w h) {c p : Int32} (hx : ¬ sp_isC w h c ∨ ¬ sp_wi p 0 99) (hd : 2 ≤ d) : mm_Ci g zX11_land d [.ref 0, .int (c), .int (p)] sh_S (cN (w * h) n l k o r A N) (-1000000001) (cN (w * h) n l k o r A N) := by
  obtain ⟨hz1, hz2, hz3, hz4, hz5, hz6⟩ := id hz
  have hc := mo_W_c hW
  obtain ⟨-, -, hw1, hw2, hh1, hh2⟩ := id hW
  refine mm_Ci_of (fun Q hq => ?_)
  refine mm_begin (ls := [(0, .ref 0), (1, .int (c)), (2, .int (p))]) (Nat.le_of_ble_eq_true rfl) rfl rfl ?_
  refine mm_aload_n 0 dX11_land_0 rfl rfl ?_
  refine mm_getr (b := 1) dX11_land_1 rfl fk_X11_10 rfl so_0 sr_0_0 ?_
  refine mm_getr (b := 2) dX11_land_4 rfl fk_X11_72 rfl so_1 sr_1_0 ?_
  refine mm_astore_n (ls' := [(3, .ref 2), (0, .ref 0), (1, .int (c)), (2, .int (p))]) dX11_land_7 rfl (by decide) rfl ?_
  refine mm_aload_n 0 dX11_land_8 rfl rfl ?_
  refine mm_iload_n 2 dX11_land_9 rfl rfl ?_
  refine mm_cV1i (dz := d - 1) dX11_land_10 rfl mzX0_holds ml_X11_82 imX0_holds (by omega) so_2 ⟨rfl, rfl⟩ (cg_holds hz hW (by omega)) (Nat.le_of_ble_eq_true rfl) ⟨Nat.le_refl _, Nat.le_refl _⟩ ?_
  refine mm_if_eqB (tgt := 26) dX11_land_13 (by decide) (fun c13 => ?_) (fun c13 => ?_)
  · refine mm_ldc dX11_land_26 rfl kc_X11_67 ?_
    refine mm_iret dX11_land_28 rfl ⟨Nat.le_refl _, Nat.le_refl _⟩ ?_
    exact hq
  · refine mm_iload_n 3 dX11_land_16 rfl rfl ?_
    refine mm_iconst (v := 0) dX11_land_17 rfl ?_
    refine mm_bipush (v := 99) dX11_land_18 rfl ?_
    refine mm_cS3i (dz := d - 1) dX11_land_20 rfl mzX11_within ml_X11_63 imX11_within (by omega) cx_within (Nat.le_of_ble_eq_true rfl) ⟨Nat.le_refl _, Nat.le_refl _⟩ ?_
    refine mm_if_neB (tgt := 29) dX11_land_23 (by decide) (fun c23 => ?_) (fun c23 => ?_)
    · exact absurd hx (by intro q; rcases q with q | q; exact q c13; exact q c23)
    · refine mm_ldc dX11_land_26 rfl kc_X11_67 ?_
      refine mm_iret dX11_land_28 rfl ⟨Nat.le_refl _, Nat.le_refl _⟩ ?_
      exact hq
set_option maxRecDepth 100000 in
set_option maxHeartbeats 600000 in
theorem cb_landN {g : mm_G} {d : Nat} {w h n l k o r : Nat} {A : mm_I} {N : Nat → Int32} (hz : zOK (w * h) n l k o r) (hW : mo_W N w h) {c : Nat} {p : Int32} (h1 : c < w * h) (h2 : sp_wi p 0 99) (hD : mo_D N n) (hx : N (30 + c) = 1 ∨ c = 0 ∨ ¬ sp_mo N (nI c) n < 0) (hd : 3 ≤ d) : mm_Ci g zX11_land d [.ref 0, .int (nI (c)), .int (p)] sh_S (cN (w * h) n l k o r A N) (-1000000002) (cN (w * h) n l k o r A N) := by
  obtain ⟨hz1, hz2, hz3, hz4, hz5, hz6⟩ := id hz
  have hc := mo_W_c hW
  obtain ⟨-, -, hw1, hw2, hh1, hh2⟩ := id hW
  have h3 := isC_of hc.2 h1
  refine mm_Ci_of (fun Q hq => ?_)
  refine mm_begin (ls := [(0, .ref 0), (1, .int (nI (c))), (2, .int (p))]) (Nat.le_of_ble_eq_true rfl) rfl rfl ?_
  refine mm_aload_n 0 dX11_land_0 rfl rfl ?_
  refine mm_getr (b := 1) dX11_land_1 rfl fk_X11_10 rfl so_0 sr_0_0 ?_
  refine mm_getr (b := 2) dX11_land_4 rfl fk_X11_72 rfl so_1 sr_1_0 ?_
  refine mm_astore_n (ls' := [(3, .ref 2), (0, .ref 0), (1, .int (nI (c))), (2, .int (p))]) dX11_land_7 rfl (by decide) rfl ?_
  refine mm_aload_n 0 dX11_land_8 rfl rfl ?_
  refine mm_iload_n 2 dX11_land_9 rfl rfl ?_
  refine mm_cV1i (dz := d - 1) dX11_land_10 rfl mzX0_holds ml_X11_82 imX0_holds (by omega) so_2 ⟨rfl, rfl⟩ (cg_holds hz hW (by omega)) (Nat.le_of_ble_eq_true rfl) ⟨Nat.le_refl _, Nat.le_refl _⟩ ?_
  refine mm_if_eqB (tgt := 26) dX11_land_13 (by decide) (fun c13 => ?_) (fun c13 => ?_)
  · first | exact absurd h3 c13 | exact absurd h2 c23
  · refine mm_iload_n 3 dX11_land_16 rfl rfl ?_
    refine mm_iconst (v := 0) dX11_land_17 rfl ?_
    refine mm_bipush (v := 99) dX11_land_18 rfl ?_
    refine mm_cS3i (dz := d - 1) dX11_land_20 rfl mzX11_within ml_X11_63 imX11_within (by omega) cx_within (Nat.le_of_ble_eq_true rfl) ⟨Nat.le_refl _, Nat.le_refl _⟩ ?_
    refine mm_if_neB (tgt := 29) dX11_land_23 (by decide) (fun c23 => ?_) (fun c23 => ?_)
    · refine mm_iload_n 2 dX11_land_29 rfl rfl ?_
      refine mm_if_eqN (c) (tgt := 52) dX11_land_30 (by decide) (by omega) (fun c30 => ?_) (fun c30 => ?_)
      · refine mm_ldc dX11_land_52 rfl kc_X11_90 ?_
        refine mm_iret dX11_land_54 rfl ⟨Nat.le_refl _, Nat.le_refl _⟩ ?_
        exact hq
      · refine mm_aload_n 0 dX11_land_33 rfl rfl ?_
        refine mm_iload_n 2 dX11_land_34 rfl rfl ?_
        refine mm_cV1i (dz := d - 1) dX11_land_35 rfl mzX0_isOpen ml_X11_194 imX0_isOpen (by omega) so_2 ⟨rfl, rfl⟩ (cg_isOpen hz hW (c := c) (by omega) (by omega)) (Nat.le_of_ble_eq_true rfl) ⟨Nat.le_refl _, Nat.le_refl _⟩ ?_
        refine mm_if_eqB (tgt := 52) dX11_land_38 (by decide) (fun c38 => ?_) (fun c38 => ?_)
        · refine mm_ldc dX11_land_52 rfl kc_X11_90 ?_
          refine mm_iret dX11_land_54 rfl ⟨Nat.le_refl _, Nat.le_refl _⟩ ?_
          exact hq
        · refine mm_aload_n 1 dX11_land_41 rfl rfl ?_
          refine mm_getr (b := 1) dX11_land_42 rfl fk_X11_10 rfl so_0 sr_0_0 ?_
          refine mm_iload_n 2 dX11_land_45 rfl rfl ?_
          refine mm_cV1i (dz := d - 1) dX11_land_46 rfl mzX8_machineOn ml_X11_86 imX8_machineOn (by omega) so_1 ⟨rfl, rfl⟩ (cg_mo hz hW hD (by omega)) (Nat.le_of_ble_eq_true rfl) ⟨Nat.le_refl _, Nat.le_refl _⟩ ?_
          refine mm_if_lt (tgt := 55) dX11_land_49 (by decide) (fun c49 => ?_) (fun c49 => ?_)
          · exact absurd hx (by intro q; rcases q with q | q | q; exact absurd q (by simpa using c38); exact c30 q; exact q c49)
          · refine mm_ldc dX11_land_52 rfl kc_X11_90 ?_
            refine mm_iret dX11_land_54 rfl ⟨Nat.le_refl _, Nat.le_refl _⟩ ?_
            exact hq
    · first | exact absurd h3 c13 | exact absurd h2 c23
set_option maxRecDepth 100000 in
set_option maxHeartbeats 600000 in
theorem cb_land1 {g : mm_G} {d : Nat} {w h n l k o r : Nat} {A : mm_I} {N : Nat → Int32} (hz : zOK (w * h) n l k o r) (hW : mo_W N w h) {c : Nat} {p : Int32} (h1 : c < w * h) (h2 : sp_wi p 0 99) (hD : mo_D N n) (hC : mo_C N n (w * h)) (hx : ¬ (N (30 + c) = 1 ∨ c = 0 ∨ ¬ sp_mo N (nI c) n < 0)) (hd : 3 ≤ d) : mm_Ci g zX11_land d [.ref 0, .int (nI (c)), .int (p)] sh_S (cN (w * h) n l k o r A N) (sp_ls (upd (lcN N w (nI c) (w * h)) 12 (sp_min 9999 ((lcN N w (nI c) (w * h)) 12 + p))) w (nI c) n) (cN (w * h) n l k o r A (lwN (upd (lcN N w (nI c) (w * h)) 12 (sp_min 9999 ((lcN N w (nI c) (w * h)) 12 + p))) w (nI c) n)) := by
  obtain ⟨hz1, hz2, hz3, hz4, hz5, hz6⟩ := id hz
  have hc := mo_W_c hW
  obtain ⟨-, -, hw1, hw2, hh1, hh2⟩ := id hW
  have h3 := isC_of hc.2 h1
  have hWL : mo_W (lcN N w (nI c) (w * h)) w h := ⟨(lcN_ne (by decide) _ (fun q _ => by omega)).trans hW.1, (lcN_ne (by decide) _ (fun q _ => by omega)).trans hW.2.1, hW.2.2⟩
  have hWL2 : mo_W (upd (lcN N w (nI c) (w * h)) 12 (sp_min 9999 ((lcN N w (nI c) (w * h)) 12 + p))) w h := ⟨hWL.1, hWL.2.1, hWL.2.2⟩
  have hCL : mo_C (upd (lcN N w (nI c) (w * h)) 12 (sp_min 9999 ((lcN N w (nI c) (w * h)) 12 + p))) n (w * h) := fun m hm => by
    obtain ⟨x, hx1, hx2⟩ := hC m hm
    exact ⟨x, hx1, by unfold upd; rw [if_neg (by omega), lcN_ne (by omega) _ (fun q _ => by omega)]; exact hx2⟩
  refine mm_Ci_of (fun Q hq => ?_)
  refine mm_begin (ls := [(0, .ref 0), (1, .int (nI (c))), (2, .int (p))]) (Nat.le_of_ble_eq_true rfl) rfl rfl ?_
  refine mm_aload_n 0 dX11_land_0 rfl rfl ?_
  refine mm_getr (b := 1) dX11_land_1 rfl fk_X11_10 rfl so_0 sr_0_0 ?_
  refine mm_getr (b := 2) dX11_land_4 rfl fk_X11_72 rfl so_1 sr_1_0 ?_
  refine mm_astore_n (ls' := [(3, .ref 2), (0, .ref 0), (1, .int (nI (c))), (2, .int (p))]) dX11_land_7 rfl (by decide) rfl ?_
  refine mm_aload_n 0 dX11_land_8 rfl rfl ?_
  refine mm_iload_n 2 dX11_land_9 rfl rfl ?_
  refine mm_cV1i (dz := d - 1) dX11_land_10 rfl mzX0_holds ml_X11_82 imX0_holds (by omega) so_2 ⟨rfl, rfl⟩ (cg_holds hz hW (by omega)) (Nat.le_of_ble_eq_true rfl) ⟨Nat.le_refl _, Nat.le_refl _⟩ ?_
  refine mm_if_eqB (tgt := 26) dX11_land_13 (by decide) (fun c13 => ?_) (fun c13 => ?_)
  · first | exact absurd h3 c13 | exact absurd h2 c23
  · refine mm_iload_n 3 dX11_land_16 rfl rfl ?_
    refine mm_iconst (v := 0) dX11_land_17 rfl ?_
    refine mm_bipush (v := 99) dX11_land_18 rfl ?_
    refine mm_cS3i (dz := d - 1) dX11_land_20 rfl mzX11_within ml_X11_63 imX11_within (by omega) cx_within (Nat.le_of_ble_eq_true rfl) ⟨Nat.le_refl _, Nat.le_refl _⟩ ?_
    refine mm_if_neB (tgt := 29) dX11_land_23 (by decide) (fun c23 => ?_) (fun c23 => ?_)
    · refine mm_iload_n 2 dX11_land_29 rfl rfl ?_
      refine mm_if_eqN (c) (tgt := 52) dX11_land_30 (by decide) (by omega) (fun c30 => ?_) (fun c30 => ?_)
      · exfalso; apply hx; first | exact Or.inl (by simpa using c38) | exact Or.inr (Or.inl c30) | exact Or.inr (Or.inr c49)
      · refine mm_aload_n 0 dX11_land_33 rfl rfl ?_
        refine mm_iload_n 2 dX11_land_34 rfl rfl ?_
        refine mm_cV1i (dz := d - 1) dX11_land_35 rfl mzX0_isOpen ml_X11_194 imX0_isOpen (by omega) so_2 ⟨rfl, rfl⟩ (cg_isOpen hz hW (c := c) (by omega) (by omega)) (Nat.le_of_ble_eq_true rfl) ⟨Nat.le_refl _, Nat.le_refl _⟩ ?_
        refine mm_if_eqB (tgt := 52) dX11_land_38 (by decide) (fun c38 => ?_) (fun c38 => ?_)
        · exfalso; apply hx; first | exact Or.inl (by simpa using c38) | exact Or.inr (Or.inl c30) | exact Or.inr (Or.inr c49)
        · refine mm_aload_n 1 dX11_land_41 rfl rfl ?_
          refine mm_getr (b := 1) dX11_land_42 rfl fk_X11_10 rfl so_0 sr_0_0 ?_
          refine mm_iload_n 2 dX11_land_45 rfl rfl ?_
          refine mm_cV1i (dz := d - 1) dX11_land_46 rfl mzX8_machineOn ml_X11_86 imX8_machineOn (by omega) so_1 ⟨rfl, rfl⟩ (cg_mo hz hW hD (by omega)) (Nat.le_of_ble_eq_true rfl) ⟨Nat.le_refl _, Nat.le_refl _⟩ ?_
          refine mm_if_lt (tgt := 55) dX11_land_49 (by decide) (fun c49 => ?_) (fun c49 => ?_)
          · refine mm_aload_n 0 dX11_land_55 rfl rfl ?_
            refine mm_iload_n 2 dX11_land_56 rfl rfl ?_
            refine mm_cV1v (dz := d - 1) dX11_land_57 rfl mzX0_blast ml_X11_285 imX0_blast (by omega) so_2 ⟨rfl, rfl⟩ (cg_blast hz hW h1 (by omega)) (Nat.le_of_ble_eq_true rfl) ⟨Nat.le_refl _, Nat.le_refl _⟩ ?_
            refine mm_aload_n 0 dX11_land_60 rfl rfl ?_
            refine mm_getr (b := 11) dX11_land_61 rfl fk_X11_148 rfl so_2 sr_2_6 ?_
            refine mm_iconst (v := 2) dX11_land_64 rfl ?_
            refine mm_sipush (v := 9999) dX11_land_65 rfl ?_
            refine mm_aload_n 0 dX11_land_68 rfl rfl ?_
            refine mm_at (pc' := 69) rfl ?_
            refine mm_getr (b := 11) dX11_land_69 rfl fk_X11_148 rfl so_2 sr_2_6 ?_
            refine mm_iconst (v := 2) dX11_land_72 rfl ?_
            refine mm_cV1i (dz := d - 1) dX11_land_73 rfl mzX5_at ml_X11_102 imX5_at (by omega) so_11 ⟨rfl, rfl⟩ (ct_at rw_11 (2) (by omega)) (Nat.le_of_ble_eq_true rfl) ⟨Nat.le_refl _, Nat.le_refl _⟩ ?_
            refine mm_top (v := (lcN N w (nI c) (w * h)) 12) (cN_r (lo_at12.trans (if_pos (by decide)))) ?_
            refine mm_iload_n 3 dX11_land_76 rfl rfl ?_
            refine mm_iadd dX11_land_77 ?_
            refine mm_min dX11_land_78 rfl ml_X11_132 jm_min (by omega) (Nat.le_of_ble_eq_true rfl) ⟨Nat.le_refl _, Nat.le_refl _⟩ ?_
            refine mm_cV2v (dz := d - 1) dX11_land_81 rfl mzX5_set ml_X11_139 imX5_set (by omega) so_11 ⟨rfl, rfl⟩ (ct_set rw_11 (2) (by omega)) (Nat.le_of_ble_eq_true rfl) ⟨Nat.le_refl _, Nat.le_refl _⟩ ?_
            refine mm_mem (J := cN (w * h) n l k o r A (upd (lcN N w (nI c) (w * h)) 12 (sp_min 9999 ((lcN N w (nI c) (w * h)) 12 + p)))) (cN_up hz (x := 12) (lo_at12.trans (if_pos (by decide))) (sn_up (by omega) hz.1)) ?_
            refine mm_aload_n 1 dX11_land_84 rfl rfl ?_
            refine mm_at (pc' := 85) rfl ?_
            refine mm_getr (b := 1) dX11_land_85 rfl fk_X11_10 rfl so_0 sr_0_0 ?_
            refine mm_iload_n 2 dX11_land_88 rfl rfl ?_
            refine mm_cV1i (dz := d - 1) dX11_land_89 rfl mzX8_shake ml_X11_288 imX8_shake (by omega) so_1 ⟨rfl, rfl⟩ (cg_shake hz hWL2 h1 hCL (by omega)) (Nat.le_of_ble_eq_true rfl) ⟨Nat.le_refl _, Nat.le_refl _⟩ ?_
            refine mm_iret dX11_land_92 rfl ⟨Nat.le_refl _, Nat.le_refl _⟩ ?_
            exact hq
          · exfalso; apply hx; first | exact Or.inl (by simpa using c38) | exact Or.inr (Or.inl c30) | exact Or.inr (Or.inr c49)
    · first | exact absurd h3 c13 | exact absurd h2 c23
theorem ls_c {N M : Nat → Int32} {w : Nat} {c : Int32} (h : ∀ x, 590 ≤ x → N x = M x) : ∀ m, sp_ls N w c m = sp_ls M w c m := by
  intro m
  induction m with
  | zero => rfl
  | succ m ih => unfold sp_ls sp_lw; rw [h (630 + 40 * m + 1) (by omega), h (630 + 40 * m + 3) (by omega), ih]
theorem cb_land {g : mm_G} {d : Nat} {w h n l k o r : Nat} {A : mm_I} {N : Nat → Int32} (hz : zOK (w * h) n l k o r) (hW : mo_W N w h) {J : mm_I} (hJ : J 201 = N) {c : Nat} {p : Int32} (h1 : c < w * h) (h2 : sp_wi p 0 99) (hD : mo_D N n) (hC : mo_C N n (w * h)) (hK0 : ∀ x, x < w * h → (N (30 + x) = 4 ↔ x = 0)) (hd : 3 ≤ d) : mm_Ci g zX11_land d [.ref 0, .int (nI c), .int p] sh_S (cN (w * h) n l k o r A N) (op_land w h n J (nI c) p).1 (cN (w * h) n l k o r A ((op_land w h n J (nI c) p).2 201)) := by
  have hc := mo_W_c hW
  subst hJ
  have e : op_land w h n J (nI c) p = if J 201 (30 + c) = 1 ∨ c = 0 ∨ ¬ sp_mo (J 201) (nI c) n < 0 then ((-1000000002), J) else (sp_ls (J 201) w (nI c) n, op_lp (op_lc (op_lw J w (nI c) n) w (nI c) (w * h)) p) := by
    unfold op_land
    rw [if_neg (by intro q; rcases q with q | q; exact q (isC_of hc.2 h1); exact q h2), vv_nI (by omega)]
    simp only [hK0 c h1]
  rw [e]
  by_cases hx : J 201 (30 + c) = 1 ∨ c = 0 ∨ ¬ sp_mo (J 201) (nI c) n < 0
  · rw [if_pos hx]; exact cb_landN hz hW h1 h2 hD hx hd
  · rw [if_neg hx]
    have e2 := cb_land1 (g := g) (d := d) (A := A) hz hW h1 h2 hD hC hx hd
    show mm_Ci g zX11_land d [.ref 0, .int (nI c), .int p] sh_S _ (sp_ls (J 201) w (nI c) n) (cN (w * h) n l k o r A (op_lp (op_lc (op_lw J w (nI c) n) w (nI c) (w * h)) p 201))
    rw [land_N hc.2]
    rw [ls_c (M := J 201) (fun x hx => by unfold upd; rw [if_neg (by omega), lcN_ne (by omega) _ (fun q _ => by omega)]) n] at e2
    exact e2
