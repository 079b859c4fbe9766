/-! THE CLASS: run -/
theorem rn_iV {J : mm_I} {w h n l k o r T : Nat} (H : iV (J 201) w h n l k o r T) : ∀ j, T + j ≤ 2000 → ∃ o' r', iV (rn w h n l J j 201) w h n l k o' r' (T + j) := by
  intro j
  induction j with
  | zero => intro _; exact ⟨o, r, H⟩
  | succ j ih =>
    intro hj
    obtain ⟨o', r', q⟩ := ih (by omega)
    obtain ⟨-, r2, -, -, z⟩ := tk_all q (by omega)
    exact ⟨_, r2, z⟩
theorem rn_tk {J : mm_I} {w h n l k o r T : Nat} (H : iV (J 201) w h n l k o r T) {x : Int32} : sp_wi x 1 30 → J 201 7 + x ≤ 2000 → ∀ j, j < vv x → tk_H2 w h n l (rn w h n l J j) := by
  intro h1 h2 j hj
  obtain ⟨k', hk, e⟩ := sp_wi_n 1 30 (by omega) (by omega) h1
  subst e
  rw [vv_nI (by omega)] at hj
  obtain ⟨h7, hT⟩ := H.2.2.2.2.2.2.2.2.2.2.2.2.1
  rw [h7, nI_add] at h2
  have h3 : T + k' ≤ 2000 := (nI_leI (b := 2000) (by omega) (by decide)).mp h2
  obtain ⟨o', r', q⟩ := rn_iV H j (by omega)
  exact (tk_all q (by omega)).1
set_option maxRecDepth 100000 in
set_option maxHeartbeats 600000 in
theorem cb_run {g : mm_G} {d : Nat} {M J : mm_I} {w h n l k o r T : Nat} (H : siR M (J 201) w h n l k o r T) {x : Int32} (hd : 10 ≤ d) : mm_Di g zX11_run d [.ref 0, .int x] sh_S M (fun r_ K => r_ = (op_run w h n l J x).1 ∧ (∃ o' r' T', siR K ((op_run w h n l J x).2 201) w h n l k o' r' T') ∧ tkF K M) := by
  obtain ⟨h7, hT⟩ := H.1.2.2.2.2.2.2.2.2.2.2.2.2.1
  refine mm_Di_of (fun Q hq => ?_)
  refine mm_begin (ls := [(0, .ref 0), (1, .int (x))]) (Nat.le_of_ble_eq_true rfl) rfl rfl ?_
  refine mm_iload_n 1 dX11_run_0 rfl rfl ?_
  refine mm_iconst (v := 1) dX11_run_1 rfl ?_
  refine mm_bipush (v := 30) dX11_run_2 rfl ?_
  refine mm_cS3i (dz := d - 1) dX11_run_4 rfl mzX11_within ml_X11_63 imX11_within (by omega) cx_within (Nat.le_of_ble_eq_true rfl) ⟨Nat.le_refl _, Nat.le_refl _⟩ ?_
  refine mm_if_neB (tgt := 13) dX11_run_7 (by decide) (fun c7 => ?_) (fun c7 => ?_)
  · refine mm_aload_n 0 dX11_run_13 rfl rfl ?_
    refine mm_getr (b := 1) dX11_run_14 rfl fk_X11_10 rfl so_0 sr_0_0 ?_
    refine mm_getr (b := 17) dX11_run_17 rfl fk_X11_158 rfl so_1 sr_1_1 ?_
    refine mm_geti dX11_run_20 rfl fk_X11_174 rfl so_17 ?_
    refine mm_top (v := J 201 7) H.2.1.p0 ?_
    refine mm_iload_n 1 dX11_run_23 rfl rfl ?_
    refine mm_iadd dX11_run_24 ?_
    refine mm_sipush (v := 2000) dX11_run_25 rfl ?_
    refine mm_icmp_le (tgt := 34) dX11_run_28 (by decide) (fun c28 => ?_) (fun c28 => ?_)
    · obtain ⟨k', hk, e⟩ := sp_wi_n 1 30 (by omega) (by omega) c7
      subst e
      have h3 : T + k' ≤ 2000 := by rw [h7, nI_add] at c28; exact (nI_leI (b := 2000) (by omega) (by decide)).mp c28
      have er : op_run w h n l J (nI k') = (rn w h n l J k' 201 7, rn w h n l J k') := by unfold op_run; rw [if_neg (fun q => q c7), if_neg (fun q => q c28), vv_nI (by omega)]
      rw [er] at hq
      have K : ∀ (mf i : Nat), i ≤ k' → k' - i < mf → ∀ M2, (∃ o' r', siR M2 (rn w h n l J i 201) w h n l k o' r' (T + i)) → tkF M2 M → mm_Ex g zX11_run d (0, 0) (0, 0) sh_S M2 36 [(2, .int (nI i)), (0, .ref 0), (1, .int (nI k'))] [] Q := by
        intro mf
        induction mf with
        | zero => intro i hi hmz; exact absurd hmz (Nat.not_lt_zero _)
        | succ mf ih =>
          intro i hi hmz M2 hS2 f2
          obtain ⟨o', r', H2⟩ := hS2
          refine mm_iload_n 0 dX11_run_36 rfl rfl ?_
          refine mm_iload_n 2 dX11_run_37 rfl rfl ?_
          refine mm_icmp_geN (i) (k') (tgt := 54) dX11_run_38 (by decide) (by omega) (by omega) (fun c38 => ?_) (fun c38 => ?_)
          · refine mm_aload_n 1 dX11_run_54 rfl rfl ?_
            refine mm_getr (b := 1) dX11_run_55 rfl fk_X11_10 rfl so_0 sr_0_0 ?_
            refine mm_getr (b := 17) dX11_run_58 rfl fk_X11_158 rfl so_1 sr_1_1 ?_
            refine mm_geti dX11_run_61 rfl fk_X11_174 rfl so_17 ?_
            have e : i = k' := by omega
            subst e
            refine mm_top (v := rn w h n l J i 201 7) H2.2.1.p0 ?_
            refine mm_iret dX11_run_64 rfl ⟨Nat.le_refl _, Nat.le_refl _⟩ ?_
            exact hq _ _ ⟨rfl, ⟨o', r', _, H2⟩, f2⟩
          · refine mm_aload_n 1 dX11_run_41 rfl rfl ?_
            refine mm_getr (b := 171) dX11_run_42 rfl fk_X11_28 rfl so_0 sr_0_3 ?_
            refine mm_dV0v (dz := d - 1) dX11_run_45 rfl mzX6_passTick ml_X11_282 imX6_passTick (by omega) so_171 ⟨rfl, rfl⟩ (cg_pt H2 (by omega) (by omega)) (Nat.le_of_ble_eq_true rfl) ⟨Nat.le_refl _, Nat.le_refl _⟩ (fun M3 hM3 => ?_)
            obtain ⟨⟨r2, H3⟩, f3⟩ : (∃ r2, siR M3 (op_tick w h n l (rn w h n l J i) 201) w h n l k (oc (rn w h n l J i) o').2 r2 (T + i + 1)) ∧ tkF M3 M2 := by
              obtain ⟨r2, z1, z2⟩ := hM3
              exact ⟨⟨r2, z1⟩, z2⟩
            refine mm_iincN (ls' := [(2, .int (nI (i + 1))), (0, .ref 0), (1, .int (nI (k')))]) 0 (i) 1 dX11_run_48 rfl rfl (by decide) rfl ?_
            refine mm_goto (tgt := 36) dX11_run_51 (by decide) ?_
            exact ih (i + 1) (by omega) (by omega) M3 ⟨_, r2, H3⟩ (tkF_t f2 f3)
      refine mm_iconst (v := 0) dX11_run_34 rfl ?_
      refine mm_istore_n (ls' := [(2, .int (0)), (0, .ref 0), (1, .int (nI (k')))]) dX11_run_35 rfl (by decide) rfl ?_
      exact mm_sub [0, 1, 2] rfl (K (k' + 1) 0 (Nat.zero_le _) (by omega) M ⟨o, r, H⟩ (fun _ _ => rfl))
    · refine mm_ldc dX11_run_31 rfl kc_X11_170 ?_
      refine mm_iret dX11_run_33 rfl ⟨Nat.le_refl _, Nat.le_refl _⟩ ?_
      have er : op_run w h n l J x = (-1000000003, J) := by unfold op_run; rw [if_neg (fun q => q c7), if_pos c28]
      rw [er] at hq
      exact hq _ _ ⟨rfl, ⟨o, r, T, H⟩, fun _ _ => rfl⟩
  · refine mm_ldc dX11_run_10 rfl kc_X11_67 ?_
    refine mm_iret dX11_run_12 rfl ⟨Nat.le_refl _, Nat.le_refl _⟩ ?_
    have er : op_run w h n l J x = (-1000000001, J) := by unfold op_run; rw [if_pos c7]
    rw [er] at hq
    exact hq _ _ ⟨rfl, ⟨o, r, T, H⟩, fun _ _ => rfl⟩
