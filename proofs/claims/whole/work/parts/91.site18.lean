/-! THE CLASS: tell -/
theorem cN_dh {c n l k o r : Nat} (hn : n ≤ 5) {A : mm_I} {N : Nat → Int32} {a i : Nat} {v : Int32} (h : 85 < a) : mm_up (cN c n l k o r A N) a i v = cN c n l k o r (mm_up A a i v) N := cN_dn (lo_hi hn h) (cn_hi (by omega))
set_option maxRecDepth 100000 in
set_option maxHeartbeats 600000 in
theorem cb_tell1 {g : mm_G} {d : Nat} {w h n l k o r : Nat} {A : mm_I} {N : Nat → Int32} (hz : zOK (w * h) n l k o r) (hW : mo_W N w h) {t : Nat} (ht : A 191 1 = nI t) (ht1 : t < 100) {v : Int32} (hd : 1 ≤ d) : mm_Ci g zX11_tell d [.ref 0, .int (v)] sh_S (cN (w * h) n l k o r A N) (nI (t + 1)) (cN (w * h) n l k o r (mm_up (mm_up A 192 t v) 191 1 (nI (t + 1))) N) := by
  obtain ⟨hz1, hz2, hz3, hz4, hz5, hz6⟩ := id hz
  have hc := mo_W_c hW
  obtain ⟨-, -, hw1, hw2, hh1, hh2⟩ := id hW
  refine mm_Ci_of (fun Q hq => ?_)
  refine mm_begin (ls := [(0, .ref 0), (1, .int (v))]) (Nat.le_of_ble_eq_true rfl) rfl rfl ?_
  refine mm_aload_n 0 dX11_tell_0 rfl rfl ?_
  refine mm_getr (b := 191) dX11_tell_1 rfl fk_X11_50 rfl so_0 sr_0_6 ?_
  refine mm_iload_n 1 dX11_tell_4 rfl rfl ?_
  refine mm_cV1i (dz := d - 1) dX11_tell_5 rfl mzX5_add ml_X11_329 imX5_add (by omega) so_191 ⟨rfl, rfl⟩ (ct_add rw_191 t (by rw [cN_hi hz2 (by decide)]; exact ht) (by omega)) (Nat.le_of_ble_eq_true rfl) ⟨Nat.le_refl _, Nat.le_refl _⟩ ?_
  refine mm_if_eq (tgt := 21) dX11_tell_8 (by decide) (fun q => absurd q (by decide)) (fun _ => ?_)
  refine mm_aload_n 0 dX11_tell_11 rfl rfl ?_
  refine mm_getr (b := 191) dX11_tell_12 rfl fk_X11_50 rfl so_0 sr_0_6 ?_
  refine mm_cV0i (dz := d - 1) dX11_tell_15 rfl mzX5_size ml_X11_236 imX5_size (by omega) so_191 ⟨rfl, rfl⟩ (ct_size rw_191) (Nat.le_of_ble_eq_true rfl) ⟨Nat.le_refl _, Nat.le_refl _⟩ ?_
  refine mm_top (v := nI (t + 1)) (by rw [mm_up_at]) ?_
  refine mm_goto (tgt := 23) dX11_tell_18 (by decide) ?_
  refine mm_iret dX11_tell_23 rfl ⟨Nat.le_refl _, Nat.le_refl _⟩ ?_
  rw [cN_dh hz2 (by decide), cN_dh hz2 (by decide)]; exact hq
set_option maxRecDepth 100000 in
set_option maxHeartbeats 600000 in
theorem cb_tell2 {g : mm_G} {d : Nat} {w h n l k o r : Nat} {A : mm_I} {N : Nat → Int32} (hz : zOK (w * h) n l k o r) (hW : mo_W N w h) (ht : A 191 1 = nI 100) {v : Int32} (hd : 1 ≤ d) : mm_Ci g zX11_tell d [.ref 0, .int (v)] sh_S (cN (w * h) n l k o r A N) (-1000000003) (cN (w * h) n l k o r A N) := by
  obtain ⟨hz1, hz2, hz3, hz4, hz5, hz6⟩ := id hz
  have hc := mo_W_c hW
  obtain ⟨-, -, hw1, hw2, hh1, hh2⟩ := id hW
  refine mm_Ci_of (fun Q hq => ?_)
  refine mm_begin (ls := [(0, .ref 0), (1, .int (v))]) (Nat.le_of_ble_eq_true rfl) rfl rfl ?_
  refine mm_aload_n 0 dX11_tell_0 rfl rfl ?_
  refine mm_getr (b := 191) dX11_tell_1 rfl fk_X11_50 rfl so_0 sr_0_6 ?_
  refine mm_iload_n 1 dX11_tell_4 rfl rfl ?_
  refine mm_cV1i (dz := d - 1) dX11_tell_5 rfl mzX5_add ml_X11_329 imX5_add (by omega) so_191 ⟨rfl, rfl⟩ (ct_addF rw_191 (by rw [cN_hi hz2 (by decide)]; exact ht)) (Nat.le_of_ble_eq_true rfl) ⟨Nat.le_refl _, Nat.le_refl _⟩ ?_
  refine mm_if_eq (tgt := 21) dX11_tell_8 (by decide) (fun _ => ?_) (fun q => absurd (by decide) q)
  refine mm_ldc dX11_tell_21 rfl kc_X11_170 ?_
  refine mm_iret dX11_tell_23 rfl ⟨Nat.le_refl _, Nat.le_refl _⟩ ?_
  exact hq
