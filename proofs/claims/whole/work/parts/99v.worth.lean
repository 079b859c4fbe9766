/-! THE CLASS: what an E is worth -/
set_option maxRecDepth 100000 in
set_option maxHeartbeats 600000 in
theorem cg_sense0 {g : mm_G} {d : Nat} {w h n l k o r : Nat} {A : mm_I} {N : Nat → Int32} (hz : zOK (w * h) n l k o r) (hW : mo_W N w h) {m c : Nat} (hm : m < n) (h1 : N (630 + 40 * m + 1) = nI c) (hcc : c < w * h) {la lb : Nat} (h2 : N 2 = nI la) (h3 : N 3 = nI lb) (hla : 1 ≤ la ∧ la ≤ 24) (hlb : lb ≤ 24) (hd : 2 ≤ d) : mm_Ci g zX6_sense d [.ref 171, .ref (36 + 3 * m), .int (99)] sh_S (cN (w * h) n l k o r A N) (sp_nm N w m c 0) (cN (w * h) n l k o r A N) := by
  obtain ⟨hz1, hz2, hz3, hz4, hz5, hz6⟩ := id hz
  have hc := mo_W_c hW
  obtain ⟨-, -, hw1, hw2, hh1, hh2⟩ := id hW
  refine mm_Ci_of (fun Q hq => ?_)
  refine mm_begin (ls := [(0, .ref 171), (1, .ref (36 + 3 * m)), (2, .int (99))]) (Nat.le_of_ble_eq_true rfl) rfl rfl ?_
  refine mm_aload_n 0 dX6_sense_0 rfl rfl ?_
  refine mm_getr (b := 1) dX6_sense_1 rfl fk_X6_9 rfl so_171 sr_171_0 ?_
  refine mm_getr (b := 2) dX6_sense_4 rfl fk_X6_108 rfl so_1 sr_1_0 ?_
  refine mm_astore_n (ls' := [(3, .ref 2), (0, .ref 171), (1, .ref (36 + 3 * m)), (2, .int (99))]) dX6_sense_7 rfl (by decide) rfl ?_
  refine mm_iload_n 3 dX6_sense_8 rfl rfl ?_
  refine mm_tabIn (99) (tgt := 116) dX6_sense_9 rfl (by decide) (by decide) rfl (by decide) ?_
  refine mm_aload_n 2 dX6_sense_116 rfl rfl ?_
  refine mm_geti dX6_sense_117 rfl fk_X6_143 rfl (sm_1 (show m < 5 by omega)).1 ?_
  refine mm_top (v := N (630 + 40 * m + 2)) (cN_r ((lo_atm (by omega)).trans (if_pos ⟨by omega, by omega⟩))) ?_
  refine mm_iret dX6_sense_120 rfl ⟨Nat.le_refl _, Nat.le_refl _⟩ ?_
  exact hq
set_option maxRecDepth 100000 in
set_option maxHeartbeats 600000 in
theorem cg_sense1 {g : mm_G} {d : Nat} {w h n l k o r : Nat} {A : mm_I} {N : Nat → Int32} (hz : zOK (w * h) n l k o r) (hW : mo_W N w h) {m c : Nat} (hm : m < n) (h1 : N (630 + 40 * m + 1) = nI c) (hcc : c < w * h) {la lb : Nat} (h2 : N 2 = nI la) (h3 : N 3 = nI lb) (hla : 1 ≤ la ∧ la ≤ 24) (hlb : lb ≤ 24) (hd : 2 ≤ d) : mm_Ci g zX6_sense d [.ref 171, .ref (36 + 3 * m), .int (107)] sh_S (cN (w * h) n l k o r A N) (sp_nm N w m c 1) (cN (w * h) n l k o r A N) := by
  obtain ⟨hz1, hz2, hz3, hz4, hz5, hz6⟩ := id hz
  have hc := mo_W_c hW
  obtain ⟨-, -, hw1, hw2, hh1, hh2⟩ := id hW
  refine mm_Ci_of (fun Q hq => ?_)
  refine mm_begin (ls := [(0, .ref 171), (1, .ref (36 + 3 * m)), (2, .int (107))]) (Nat.le_of_ble_eq_true rfl) rfl rfl ?_
  refine mm_aload_n 0 dX6_sense_0 rfl rfl ?_
  refine mm_getr (b := 1) dX6_sense_1 rfl fk_X6_9 rfl so_171 sr_171_0 ?_
  refine mm_getr (b := 2) dX6_sense_4 rfl fk_X6_108 rfl so_1 sr_1_0 ?_
  refine mm_astore_n (ls' := [(3, .ref 2), (0, .ref 171), (1, .ref (36 + 3 * m)), (2, .int (107))]) dX6_sense_7 rfl (by decide) rfl ?_
  refine mm_iload_n 3 dX6_sense_8 rfl rfl ?_
  refine mm_tabIn (107) (tgt := 121) dX6_sense_9 rfl (by decide) (by decide) rfl (by decide) ?_
  refine mm_aload_n 2 dX6_sense_121 rfl rfl ?_
  refine mm_geti dX6_sense_122 rfl fk_X6_232 rfl (sm_1 (show m < 5 by omega)).1 ?_
  refine mm_top (v := N (630 + 40 * m + 4)) (cN_r ((lo_atm (by omega)).trans (if_pos ⟨by omega, by omega⟩))) ?_
  refine mm_iret dX6_sense_125 rfl ⟨Nat.le_refl _, Nat.le_refl _⟩ ?_
  exact hq
set_option maxRecDepth 100000 in
set_option maxHeartbeats 600000 in
theorem cg_sense2 {g : mm_G} {d : Nat} {w h n l k o r : Nat} {A : mm_I} {N : Nat → Int32} (hz : zOK (w * h) n l k o r) (hW : mo_W N w h) {m c : Nat} (hm : m < n) (h1 : N (630 + 40 * m + 1) = nI c) (hcc : c < w * h) {la lb : Nat} (h2 : N 2 = nI la) (h3 : N 3 = nI lb) (hla : 1 ≤ la ∧ la ≤ 24) (hlb : lb ≤ 24) (hd : 2 ≤ d) : mm_Ci g zX6_sense d [.ref 171, .ref (36 + 3 * m), .int (119)] sh_S (cN (w * h) n l k o r A N) (sp_nm N w m c 2) (cN (w * h) n l k o r A N) := by
  obtain ⟨hz1, hz2, hz3, hz4, hz5, hz6⟩ := id hz
  have hc := mo_W_c hW
  obtain ⟨-, -, hw1, hw2, hh1, hh2⟩ := id hW
  refine mm_Ci_of (fun Q hq => ?_)
  refine mm_begin (ls := [(0, .ref 171), (1, .ref (36 + 3 * m)), (2, .int (119))]) (Nat.le_of_ble_eq_true rfl) rfl rfl ?_
  refine mm_aload_n 0 dX6_sense_0 rfl rfl ?_
  refine mm_getr (b := 1) dX6_sense_1 rfl fk_X6_9 rfl so_171 sr_171_0 ?_
  refine mm_getr (b := 2) dX6_sense_4 rfl fk_X6_108 rfl so_1 sr_1_0 ?_
  refine mm_astore_n (ls' := [(3, .ref 2), (0, .ref 171), (1, .ref (36 + 3 * m)), (2, .int (119))]) dX6_sense_7 rfl (by decide) rfl ?_
  refine mm_iload_n 3 dX6_sense_8 rfl rfl ?_
  refine mm_tabIn (119) (tgt := 126) dX6_sense_9 rfl (by decide) (by decide) rfl (by decide) ?_
  refine mm_aload_n 2 dX6_sense_126 rfl rfl ?_
  refine mm_geti dX6_sense_127 rfl fk_X6_261 rfl (sm_1 (show m < 5 by omega)).1 ?_
  refine mm_top (v := N (630 + 40 * m + 3)) (cN_r ((lo_atm (by omega)).trans (if_pos ⟨by omega, by omega⟩))) ?_
  refine mm_iret dX6_sense_130 rfl ⟨Nat.le_refl _, Nat.le_refl _⟩ ?_
  exact hq
set_option maxRecDepth 100000 in
set_option maxHeartbeats 600000 in
theorem cg_sense3 {g : mm_G} {d : Nat} {w h n l k o r : Nat} {A : mm_I} {N : Nat → Int32} (hz : zOK (w * h) n l k o r) (hW : mo_W N w h) {m c : Nat} (hm : m < n) (h1 : N (630 + 40 * m + 1) = nI c) (hcc : c < w * h) {la lb : Nat} (h2 : N 2 = nI la) (h3 : N 3 = nI lb) (hla : 1 ≤ la ∧ la ≤ 24) (hlb : lb ≤ 24) (hd : 2 ≤ d) : mm_Ci g zX6_sense d [.ref 171, .ref (36 + 3 * m), .int (115)] sh_S (cN (w * h) n l k o r A N) (sp_nm N w m c 3) (cN (w * h) n l k o r A N) := by
  obtain ⟨hz1, hz2, hz3, hz4, hz5, hz6⟩ := id hz
  have hc := mo_W_c hW
  obtain ⟨-, -, hw1, hw2, hh1, hh2⟩ := id hW
  refine mm_Ci_of (fun Q hq => ?_)
  refine mm_begin (ls := [(0, .ref 171), (1, .ref (36 + 3 * m)), (2, .int (115))]) (Nat.le_of_ble_eq_true rfl) rfl rfl ?_
  refine mm_aload_n 0 dX6_sense_0 rfl rfl ?_
  refine mm_getr (b := 1) dX6_sense_1 rfl fk_X6_9 rfl so_171 sr_171_0 ?_
  refine mm_getr (b := 2) dX6_sense_4 rfl fk_X6_108 rfl so_1 sr_1_0 ?_
  refine mm_astore_n (ls' := [(3, .ref 2), (0, .ref 171), (1, .ref (36 + 3 * m)), (2, .int (115))]) dX6_sense_7 rfl (by decide) rfl ?_
  refine mm_iload_n 3 dX6_sense_8 rfl rfl ?_
  refine mm_tabIn (115) (tgt := 131) dX6_sense_9 rfl (by decide) (by decide) rfl (by decide) ?_
  refine mm_aload_n 1 dX6_sense_131 rfl rfl ?_
  refine mm_getr (b := 1) dX6_sense_132 rfl fk_X6_9 rfl so_171 sr_171_0 ?_
  refine mm_getr (b := 17) dX6_sense_135 rfl fk_X6_30 rfl so_1 sr_1_1 ?_
  refine mm_cV0i (dz := d - 1) dX6_sense_138 rfl mzX3_isLight ml_X6_36 imX3_isLight (by omega) so_17 ⟨rfl, rfl⟩ (cg_light hz hW h2 h3 hla hlb (by omega)) (Nat.le_of_ble_eq_true rfl) ⟨Nat.le_refl _, Nat.le_refl _⟩ ?_
  refine mm_cN1i (dz := d - 1) dX6_sense_141 rfl mzX11_asBit (by decide) imX11_asBit (by omega) cx_asBit (Nat.le_of_ble_eq_true rfl) ⟨Nat.le_refl _, Nat.le_refl _⟩ ?_
  refine mm_iret dX6_sense_144 rfl ⟨Nat.le_refl _, Nat.le_refl _⟩ ?_
  exact hq
set_option maxRecDepth 100000 in
set_option maxHeartbeats 600000 in
theorem cg_sense4 {g : mm_G} {d : Nat} {w h n l k o r : Nat} {A : mm_I} {N : Nat → Int32} (hz : zOK (w * h) n l k o r) (hW : mo_W N w h) {m c : Nat} (hm : m < n) (h1 : N (630 + 40 * m + 1) = nI c) (hcc : c < w * h) {la lb : Nat} (h2 : N 2 = nI la) (h3 : N 3 = nI lb) (hla : 1 ≤ la ∧ la ≤ 24) (hlb : lb ≤ 24) (hd : 2 ≤ d) : mm_Ci g zX6_sense d [.ref 171, .ref (36 + 3 * m), .int (100)] sh_S (cN (w * h) n l k o r A N) (sp_nm N w m c 4) (cN (w * h) n l k o r A N) := by
  obtain ⟨hz1, hz2, hz3, hz4, hz5, hz6⟩ := id hz
  have hc := mo_W_c hW
  obtain ⟨-, -, hw1, hw2, hh1, hh2⟩ := id hW
  refine mm_Ci_of (fun Q hq => ?_)
  refine mm_begin (ls := [(0, .ref 171), (1, .ref (36 + 3 * m)), (2, .int (100))]) (Nat.le_of_ble_eq_true rfl) rfl rfl ?_
  refine mm_aload_n 0 dX6_sense_0 rfl rfl ?_
  refine mm_getr (b := 1) dX6_sense_1 rfl fk_X6_9 rfl so_171 sr_171_0 ?_
  refine mm_getr (b := 2) dX6_sense_4 rfl fk_X6_108 rfl so_1 sr_1_0 ?_
  refine mm_astore_n (ls' := [(3, .ref 2), (0, .ref 171), (1, .ref (36 + 3 * m)), (2, .int (100))]) dX6_sense_7 rfl (by decide) rfl ?_
  refine mm_iload_n 3 dX6_sense_8 rfl rfl ?_
  refine mm_tabIn (100) (tgt := 145) dX6_sense_9 rfl (by decide) (by decide) rfl (by decide) ?_
  refine mm_aload_n 0 dX6_sense_145 rfl rfl ?_
  refine mm_getr (b := 5) dX6_sense_146 rfl fk_X6_133 rfl so_2 sr_2_3 ?_
  refine mm_aload_n 2 dX6_sense_149 rfl rfl ?_
  refine mm_geti dX6_sense_150 rfl fk_X6_124 rfl (sm_1 (show m < 5 by omega)).1 ?_
  refine mm_top (v := N (630 + 40 * m + 1)) (cN_r ((lo_atm (by omega)).trans (if_pos ⟨by omega, by omega⟩))) ?_
  refine mm_top (v := nI (c)) h1 ?_
  refine mm_cV1i (dz := d - 1) dX6_sense_153 rfl mzX5_at ml_X6_76 imX5_at (by omega) so_5 ⟨rfl, rfl⟩ (ct_at rw_5 (c) (by omega)) (Nat.le_of_ble_eq_true rfl) ⟨Nat.le_refl _, Nat.le_refl _⟩ ?_
  refine mm_top (v := N (110 + c)) (cN_r (lo_at6.trans (if_pos (by omega)))) ?_
  refine mm_iret dX6_sense_156 rfl ⟨Nat.le_refl _, Nat.le_refl _⟩ ?_
  exact hq
set_option maxRecDepth 100000 in
set_option maxHeartbeats 600000 in
theorem cg_sense5 {g : mm_G} {d : Nat} {w h n l k o r : Nat} {A : mm_I} {N : Nat → Int32} (hz : zOK (w * h) n l k o r) (hW : mo_W N w h) {m c : Nat} (hm : m < n) (h1 : N (630 + 40 * m + 1) = nI c) (hcc : c < w * h) {la lb : Nat} (h2 : N 2 = nI la) (h3 : N 3 = nI lb) (hla : 1 ≤ la ∧ la ≤ 24) (hlb : lb ≤ 24) (hd : 2 ≤ d) : mm_Ci g zX6_sense d [.ref 171, .ref (36 + 3 * m), .int (105)] sh_S (cN (w * h) n l k o r A N) (sp_nm N w m c 5) (cN (w * h) n l k o r A N) := by
  obtain ⟨hz1, hz2, hz3, hz4, hz5, hz6⟩ := id hz
  have hc := mo_W_c hW
  obtain ⟨-, -, hw1, hw2, hh1, hh2⟩ := id hW
  refine mm_Ci_of (fun Q hq => ?_)
  refine mm_begin (ls := [(0, .ref 171), (1, .ref (36 + 3 * m)), (2, .int (105))]) (Nat.le_of_ble_eq_true rfl) rfl rfl ?_
  refine mm_aload_n 0 dX6_sense_0 rfl rfl ?_
  refine mm_getr (b := 1) dX6_sense_1 rfl fk_X6_9 rfl so_171 sr_171_0 ?_
  refine mm_getr (b := 2) dX6_sense_4 rfl fk_X6_108 rfl so_1 sr_1_0 ?_
  refine mm_astore_n (ls' := [(3, .ref 2), (0, .ref 171), (1, .ref (36 + 3 * m)), (2, .int (105))]) dX6_sense_7 rfl (by decide) rfl ?_
  refine mm_iload_n 3 dX6_sense_8 rfl rfl ?_
  refine mm_tabIn (105) (tgt := 157) dX6_sense_9 rfl (by decide) (by decide) rfl (by decide) ?_
  refine mm_aload_n 0 dX6_sense_157 rfl rfl ?_
  refine mm_getr (b := 7) dX6_sense_158 rfl fk_X6_136 rfl so_2 sr_2_4 ?_
  refine mm_aload_n 2 dX6_sense_161 rfl rfl ?_
  refine mm_geti dX6_sense_162 rfl fk_X6_124 rfl (sm_1 (show m < 5 by omega)).1 ?_
  refine mm_top (v := N (630 + 40 * m + 1)) (cN_r ((lo_atm (by omega)).trans (if_pos ⟨by omega, by omega⟩))) ?_
  refine mm_top (v := nI (c)) h1 ?_
  refine mm_cV1i (dz := d - 1) dX6_sense_165 rfl mzX5_at ml_X6_76 imX5_at (by omega) so_7 ⟨rfl, rfl⟩ (ct_at rw_7 (c) (by omega)) (Nat.le_of_ble_eq_true rfl) ⟨Nat.le_refl _, Nat.le_refl _⟩ ?_
  refine mm_top (v := N (190 + c)) (cN_r (lo_at8.trans (if_pos (by omega)))) ?_
  refine mm_iret dX6_sense_168 rfl ⟨Nat.le_refl _, Nat.le_refl _⟩ ?_
  exact hq
set_option maxRecDepth 100000 in
set_option maxHeartbeats 600000 in
theorem cg_sense6 {g : mm_G} {d : Nat} {w h n l k o r : Nat} {A : mm_I} {N : Nat → Int32} (hz : zOK (w * h) n l k o r) (hW : mo_W N w h) {m c : Nat} (hm : m < n) (h1 : N (630 + 40 * m + 1) = nI c) (hcc : c < w * h) {la lb : Nat} (h2 : N 2 = nI la) (h3 : N 3 = nI lb) (hla : 1 ≤ la ∧ la ≤ 24) (hlb : lb ≤ 24) (hd : 2 ≤ d) : mm_Ci g zX6_sense d [.ref 171, .ref (36 + 3 * m), .int (98)] sh_S (cN (w * h) n l k o r A N) (sp_nm N w m c 6) (cN (w * h) n l k o r A N) := by
  obtain ⟨hz1, hz2, hz3, hz4, hz5, hz6⟩ := id hz
  have hc := mo_W_c hW
  obtain ⟨-, -, hw1, hw2, hh1, hh2⟩ := id hW
  refine mm_Ci_of (fun Q hq => ?_)
  refine mm_begin (ls := [(0, .ref 171), (1, .ref (36 + 3 * m)), (2, .int (98))]) (Nat.le_of_ble_eq_true rfl) rfl rfl ?_
  refine mm_aload_n 0 dX6_sense_0 rfl rfl ?_
  refine mm_getr (b := 1) dX6_sense_1 rfl fk_X6_9 rfl so_171 sr_171_0 ?_
  refine mm_getr (b := 2) dX6_sense_4 rfl fk_X6_108 rfl so_1 sr_1_0 ?_
  refine mm_astore_n (ls' := [(3, .ref 2), (0, .ref 171), (1, .ref (36 + 3 * m)), (2, .int (98))]) dX6_sense_7 rfl (by decide) rfl ?_
  refine mm_iload_n 3 dX6_sense_8 rfl rfl ?_
  refine mm_tabIn (98) (tgt := 169) dX6_sense_9 rfl (by decide) (by decide) rfl (by decide) ?_
  refine mm_aload_n 1 dX6_sense_169 rfl rfl ?_
  refine mm_getr (b := 1) dX6_sense_170 rfl fk_X6_9 rfl so_171 sr_171_0 ?_
  refine mm_getr (b := 17) dX6_sense_173 rfl fk_X6_30 rfl so_1 sr_1_1 ?_
  refine mm_geti dX6_sense_176 rfl fk_X6_255 rfl so_17 ?_
  refine mm_top (v := N 4) (cN_r (lo_at17.trans rfl)) ?_
  refine mm_iret dX6_sense_179 rfl ⟨Nat.le_refl _, Nat.le_refl _⟩ ?_
  exact hq
set_option maxRecDepth 100000 in
set_option maxHeartbeats 600000 in
theorem cg_sense7 {g : mm_G} {d : Nat} {w h n l k o r : Nat} {A : mm_I} {N : Nat → Int32} (hz : zOK (w * h) n l k o r) (hW : mo_W N w h) {m c : Nat} (hm : m < n) (h1 : N (630 + 40 * m + 1) = nI c) (hcc : c < w * h) {la lb : Nat} (h2 : N 2 = nI la) (h3 : N 3 = nI lb) (hla : 1 ≤ la ∧ la ≤ 24) (hlb : lb ≤ 24) (hd : 2 ≤ d) : mm_Ci g zX6_sense d [.ref 171, .ref (36 + 3 * m), .int (116)] sh_S (cN (w * h) n l k o r A N) (sp_nm N w m c 7) (cN (w * h) n l k o r A N) := by
  obtain ⟨hz1, hz2, hz3, hz4, hz5, hz6⟩ := id hz
  have hc := mo_W_c hW
  obtain ⟨-, -, hw1, hw2, hh1, hh2⟩ := id hW
  refine mm_Ci_of (fun Q hq => ?_)
  refine mm_begin (ls := [(0, .ref 171), (1, .ref (36 + 3 * m)), (2, .int (116))]) (Nat.le_of_ble_eq_true rfl) rfl rfl ?_
  refine mm_aload_n 0 dX6_sense_0 rfl rfl ?_
  refine mm_getr (b := 1) dX6_sense_1 rfl fk_X6_9 rfl so_171 sr_171_0 ?_
  refine mm_getr (b := 2) dX6_sense_4 rfl fk_X6_108 rfl so_1 sr_1_0 ?_
  refine mm_astore_n (ls' := [(3, .ref 2), (0, .ref 171), (1, .ref (36 + 3 * m)), (2, .int (116))]) dX6_sense_7 rfl (by decide) rfl ?_
  refine mm_iload_n 3 dX6_sense_8 rfl rfl ?_
  refine mm_tabIn (116) (tgt := 180) dX6_sense_9 rfl (by decide) (by decide) rfl (by decide) ?_
  refine mm_aload_n 1 dX6_sense_180 rfl rfl ?_
  refine mm_getr (b := 1) dX6_sense_181 rfl fk_X6_9 rfl so_171 sr_171_0 ?_
  refine mm_getr (b := 17) dX6_sense_184 rfl fk_X6_30 rfl so_1 sr_1_1 ?_
  refine mm_cV0i (dz := d - 1) dX6_sense_187 rfl mzX3_hour ml_X6_288 imX3_hour (by omega) so_17 ⟨rfl, rfl⟩ (cg_hour hz hW h2 h3 hla hlb) (Nat.le_of_ble_eq_true rfl) ⟨Nat.le_refl _, Nat.le_refl _⟩ ?_
  refine mm_iret dX6_sense_190 rfl ⟨Nat.le_refl _, Nat.le_refl _⟩ ?_
  exact hq
set_option maxRecDepth 100000 in
set_option maxHeartbeats 600000 in
theorem cg_sense8 {g : mm_G} {d : Nat} {w h n l k o r : Nat} {A : mm_I} {N : Nat → Int32} (hz : zOK (w * h) n l k o r) (hW : mo_W N w h) {m c : Nat} (hm : m < n) (h1 : N (630 + 40 * m + 1) = nI c) (hcc : c < w * h) {la lb : Nat} (h2 : N 2 = nI la) (h3 : N 3 = nI lb) (hla : 1 ≤ la ∧ la ≤ 24) (hlb : lb ≤ 24) (hd : 2 ≤ d) : mm_Ci g zX6_sense d [.ref 171, .ref (36 + 3 * m), .int (120)] sh_S (cN (w * h) n l k o r A N) (sp_nm N w m c 8) (cN (w * h) n l k o r A N) := by
  obtain ⟨hz1, hz2, hz3, hz4, hz5, hz6⟩ := id hz
  have hc := mo_W_c hW
  obtain ⟨-, -, hw1, hw2, hh1, hh2⟩ := id hW
  refine mm_Ci_of (fun Q hq => ?_)
  refine mm_begin (ls := [(0, .ref 171), (1, .ref (36 + 3 * m)), (2, .int (120))]) (Nat.le_of_ble_eq_true rfl) rfl rfl ?_
  refine mm_aload_n 0 dX6_sense_0 rfl rfl ?_
  refine mm_getr (b := 1) dX6_sense_1 rfl fk_X6_9 rfl so_171 sr_171_0 ?_
  refine mm_getr (b := 2) dX6_sense_4 rfl fk_X6_108 rfl so_1 sr_1_0 ?_
  refine mm_astore_n (ls' := [(3, .ref 2), (0, .ref 171), (1, .ref (36 + 3 * m)), (2, .int (120))]) dX6_sense_7 rfl (by decide) rfl ?_
  refine mm_iload_n 3 dX6_sense_8 rfl rfl ?_
  refine mm_tabIn (120) (tgt := 191) dX6_sense_9 rfl (by decide) (by decide) rfl (by decide) ?_
  refine mm_aload_n 0 dX6_sense_191 rfl rfl ?_
  refine mm_aload_n 2 dX6_sense_192 rfl rfl ?_
  refine mm_geti dX6_sense_193 rfl fk_X6_124 rfl (sm_1 (show m < 5 by omega)).1 ?_
  refine mm_top (v := N (630 + 40 * m + 1)) (cN_r ((lo_atm (by omega)).trans (if_pos ⟨by omega, by omega⟩))) ?_
  refine mm_top (v := nI (c)) h1 ?_
  refine mm_cV1i (dz := d - 1) dX6_sense_196 rfl mzX0_column ml_X6_189 imX0_column (by omega) so_2 ⟨rfl, rfl⟩ (cg_column hz hW (c := c) (by omega)) (Nat.le_of_ble_eq_true rfl) ⟨Nat.le_refl _, Nat.le_refl _⟩ ?_
  refine mm_iret dX6_sense_199 rfl ⟨Nat.le_refl _, Nat.le_refl _⟩ ?_
  exact hq
set_option maxRecDepth 100000 in
set_option maxHeartbeats 600000 in
theorem cg_sense9 {g : mm_G} {d : Nat} {w h n l k o r : Nat} {A : mm_I} {N : Nat → Int32} (hz : zOK (w * h) n l k o r) (hW : mo_W N w h) {m c : Nat} (hm : m < n) (h1 : N (630 + 40 * m + 1) = nI c) (hcc : c < w * h) {la lb : Nat} (h2 : N 2 = nI la) (h3 : N 3 = nI lb) (hla : 1 ≤ la ∧ la ≤ 24) (hlb : lb ≤ 24) (hd : 2 ≤ d) : mm_Ci g zX6_sense d [.ref 171, .ref (36 + 3 * m), .int (121)] sh_S (cN (w * h) n l k o r A N) (sp_nm N w m c 9) (cN (w * h) n l k o r A N) := by
  obtain ⟨hz1, hz2, hz3, hz4, hz5, hz6⟩ := id hz
  have hc := mo_W_c hW
  obtain ⟨-, -, hw1, hw2, hh1, hh2⟩ := id hW
  refine mm_Ci_of (fun Q hq => ?_)
  refine mm_begin (ls := [(0, .ref 171), (1, .ref (36 + 3 * m)), (2, .int (121))]) (Nat.le_of_ble_eq_true rfl) rfl rfl ?_
  refine mm_aload_n 0 dX6_sense_0 rfl rfl ?_
  refine mm_getr (b := 1) dX6_sense_1 rfl fk_X6_9 rfl so_171 sr_171_0 ?_
  refine mm_getr (b := 2) dX6_sense_4 rfl fk_X6_108 rfl so_1 sr_1_0 ?_
  refine mm_astore_n (ls' := [(3, .ref 2), (0, .ref 171), (1, .ref (36 + 3 * m)), (2, .int (121))]) dX6_sense_7 rfl (by decide) rfl ?_
  refine mm_iload_n 3 dX6_sense_8 rfl rfl ?_
  refine mm_tabOut 98 23 (tgt := 200) dX6_sense_9 rfl (by decide) (by decide) (by decide) ?_
  refine mm_aload_n 0 dX6_sense_200 rfl rfl ?_
  refine mm_aload_n 2 dX6_sense_201 rfl rfl ?_
  refine mm_geti dX6_sense_202 rfl fk_X6_124 rfl (sm_1 (show m < 5 by omega)).1 ?_
  refine mm_top (v := N (630 + 40 * m + 1)) (cN_r ((lo_atm (by omega)).trans (if_pos ⟨by omega, by omega⟩))) ?_
  refine mm_top (v := nI (c)) h1 ?_
  refine mm_cV1i (dz := d - 1) dX6_sense_205 rfl mzX0_line ml_X6_192 imX0_line (by omega) so_2 ⟨rfl, rfl⟩ (cg_line hz hW (c := c) (by omega)) (Nat.le_of_ble_eq_true rfl) ⟨Nat.le_refl _, Nat.le_refl _⟩ ?_
  refine mm_iret dX6_sense_208 rfl ⟨Nat.le_refl _, Nat.le_refl _⟩ ?_
  exact hq
theorem cg_sense {g : mm_G} {d : Nat} {w h n l k o r : Nat} {A : mm_I} {N : Nat → Int32} (hz : zOK (w * h) n l k o r) (hW : mo_W N w h) {m c : Nat} (hm : m < n) (h1 : N (630 + 40 * m + 1) = nI c) (hcc : c < w * h) {la lb : Nat} (h2 : N 2 = nI la) (h3 : N 3 = nI lb) (hla : 1 ≤ la ∧ la ≤ 24) (hlb : lb ≤ 24) {j : Nat} (hj : j < 10) (hd : 2 ≤ d) : mm_Ci g zX6_sense d [.ref 171, .ref (36 + 3 * m), .int ((mm_sx 12).getD j 0)] sh_S (cN (w * h) n l k o r A N) (sp_nm N w m c j) (cN (w * h) n l k o r A N) := by
  rcases show j = 0 ∨ j = 1 ∨ j = 2 ∨ j = 3 ∨ j = 4 ∨ j = 5 ∨ j = 6 ∨ j = 7 ∨ j = 8 ∨ j = 9 by omega with e | e | e | e | e | e | e | e | e | e <;> subst e
  · exact cg_sense0 hz hW hm h1 hcc h2 h3 hla hlb hd
  · exact cg_sense1 hz hW hm h1 hcc h2 h3 hla hlb hd
  · exact cg_sense2 hz hW hm h1 hcc h2 h3 hla hlb hd
  · exact cg_sense3 hz hW hm h1 hcc h2 h3 hla hlb hd
  · exact cg_sense4 hz hW hm h1 hcc h2 h3 hla hlb hd
  · exact cg_sense5 hz hW hm h1 hcc h2 h3 hla hlb hd
  · exact cg_sense6 hz hW hm h1 hcc h2 h3 hla hlb hd
  · exact cg_sense7 hz hW hm h1 hcc h2 h3 hla hlb hd
  · exact cg_sense8 hz hW hm h1 hcc h2 h3 hla hlb hd
  · exact cg_sense9 hz hW hm h1 hcc h2 h3 hla hlb hd
set_option maxRecDepth 100000 in
set_option maxHeartbeats 600000 in
theorem cg_join0 {g : mm_G} {d : Nat} {I : mm_I} {x y : Int32} (hd : 1 ≤ d) : mm_Ci g zX6_join d [.int (x), .int (124), .int (y)] sh_S (I) (sp_dn x y 0) (I) := by
  refine mm_Ci_of (fun Q hq => ?_)
  refine mm_begin (ls := [(0, .int (x)), (1, .int (124)), (2, .int (y))]) (Nat.le_of_ble_eq_true rfl) rfl rfl ?_
  refine mm_iload_n 1 dX6_join_0 rfl rfl ?_
  refine mm_lookup (off := 67) (tgt := 68) dX6_join_1 (by decide) (by decide) (by decide) ?_
  refine mm_iload_n 0 dX6_join_68 rfl rfl ?_
  have K69 : mm_Ex g zX6_join d (0, 0) (0, 0) sh_S (I) 81 [(0, .int (x)), (1, .int (124)), (2, .int (y))] [.int (if ¬ ((x) = 0) ∨ (¬ ((y) = 0)) then 1 else 0)] Q := by
    refine mm_cN1i (dz := d - 1) dX6_join_81 rfl mzX11_asBit (by decide) imX11_asBit (by omega) cx_asBit (Nat.le_of_ble_eq_true rfl) ⟨Nat.le_refl _, Nat.le_refl _⟩ ?_
    refine mm_iret dX6_join_84 rfl ⟨Nat.le_refl _, Nat.le_refl _⟩ ?_
    exact mm_l1 (by by_cases q1 : x = 0 <;> by_cases q2 : y = 0 <;> simp [sp_dn, q1, q2]) hq
  refine mm_if_ne (tgt := 76) dX6_join_69 (by decide) (fun c69 => ?_) (fun c69 => ?_)
  · refine mm_iconst (v := 1) dX6_join_76 rfl ?_
    refine mm_goto (tgt := 81) dX6_join_77 (by decide) ?_
    exact mm_top (by first | rfl | (simp [c69]; done) | (rw [if_pos (by simp_all)]; done) | (rw [if_neg (by simp_all)]; done) | (rw [if_pos (by omega)]; done) | (rw [if_neg (by omega)]; done)) K69
  · refine mm_iload_n 2 dX6_join_72 rfl rfl ?_
    refine mm_if_eq (tgt := 80) dX6_join_73 (by decide) (fun c73 => ?_) (fun c73 => ?_)
    · refine mm_iconst (v := 0) dX6_join_80 rfl ?_
      exact mm_top (by first | rfl | (simp [c69, c73]; done) | (rw [if_pos (by simp_all)]; done) | (rw [if_neg (by simp_all)]; done) | (rw [if_pos (by omega)]; done) | (rw [if_neg (by omega)]; done)) K69
    · refine mm_iconst (v := 1) dX6_join_76 rfl ?_
      refine mm_goto (tgt := 81) dX6_join_77 (by decide) ?_
      exact mm_top (by first | rfl | (simp [c69, c73]; done) | (rw [if_pos (by simp_all)]; done) | (rw [if_neg (by simp_all)]; done) | (rw [if_pos (by omega)]; done) | (rw [if_neg (by omega)]; done)) K69
set_option maxRecDepth 100000 in
set_option maxHeartbeats 600000 in
theorem cg_join1 {g : mm_G} {d : Nat} {I : mm_I} {x y : Int32} (hd : 1 ≤ d) : mm_Ci g zX6_join d [.int (x), .int (38), .int (y)] sh_S (I) (sp_dn x y 1) (I) := by
  refine mm_Ci_of (fun Q hq => ?_)
  refine mm_begin (ls := [(0, .int (x)), (1, .int (38)), (2, .int (y))]) (Nat.le_of_ble_eq_true rfl) rfl rfl ?_
  refine mm_iload_n 1 dX6_join_0 rfl rfl ?_
  refine mm_lookup (off := 84) (tgt := 85) dX6_join_1 (by decide) (by decide) (by decide) ?_
  refine mm_iload_n 0 dX6_join_85 rfl rfl ?_
  have K86 : mm_Ex g zX6_join d (0, 0) (0, 0) sh_S (I) 98 [(0, .int (x)), (1, .int (38)), (2, .int (y))] [.int (if ¬ ((x) = 0) ∧ (¬ ((y) = 0)) then 1 else 0)] Q := by
    refine mm_cN1i (dz := d - 1) dX6_join_98 rfl mzX11_asBit (by decide) imX11_asBit (by omega) cx_asBit (Nat.le_of_ble_eq_true rfl) ⟨Nat.le_refl _, Nat.le_refl _⟩ ?_
    refine mm_iret dX6_join_101 rfl ⟨Nat.le_refl _, Nat.le_refl _⟩ ?_
    exact mm_l1 (by by_cases q1 : x = 0 <;> by_cases q2 : y = 0 <;> simp [sp_dn, q1, q2]) hq
  refine mm_if_eq (tgt := 97) dX6_join_86 (by decide) (fun c86 => ?_) (fun c86 => ?_)
  · refine mm_iconst (v := 0) dX6_join_97 rfl ?_
    exact mm_top (by first | rfl | (simp [c86]; done) | (rw [if_pos (by simp_all)]; done) | (rw [if_neg (by simp_all)]; done) | (rw [if_pos (by omega)]; done) | (rw [if_neg (by omega)]; done)) K86
  · refine mm_iload_n 2 dX6_join_89 rfl rfl ?_
    refine mm_if_eq (tgt := 97) dX6_join_90 (by decide) (fun c90 => ?_) (fun c90 => ?_)
    · refine mm_iconst (v := 0) dX6_join_97 rfl ?_
      exact mm_top (by first | rfl | (simp [c86, c90]; done) | (rw [if_pos (by simp_all)]; done) | (rw [if_neg (by simp_all)]; done) | (rw [if_pos (by omega)]; done) | (rw [if_neg (by omega)]; done)) K86
    · refine mm_iconst (v := 1) dX6_join_93 rfl ?_
      refine mm_goto (tgt := 98) dX6_join_94 (by decide) ?_
      exact mm_top (by first | rfl | (simp [c86, c90]; done) | (rw [if_pos (by simp_all)]; done) | (rw [if_neg (by simp_all)]; done) | (rw [if_pos (by omega)]; done) | (rw [if_neg (by omega)]; done)) K86
set_option maxRecDepth 100000 in
set_option maxHeartbeats 600000 in
theorem cg_join2 {g : mm_G} {d : Nat} {I : mm_I} {x y : Int32} (hd : 1 ≤ d) : mm_Ci g zX6_join d [.int (x), .int (60), .int (y)] sh_S (I) (sp_dn x y 2) (I) := by
  refine mm_Ci_of (fun Q hq => ?_)
  refine mm_begin (ls := [(0, .int (x)), (1, .int (60)), (2, .int (y))]) (Nat.le_of_ble_eq_true rfl) rfl rfl ?_
  refine mm_iload_n 1 dX6_join_0 rfl rfl ?_
  refine mm_lookup (off := 101) (tgt := 102) dX6_join_1 (by decide) (by decide) (by decide) ?_
  refine mm_iload_n 0 dX6_join_102 rfl rfl ?_
  refine mm_iload_n 2 dX6_join_103 rfl rfl ?_
  have K104 : mm_Ex g zX6_join d (0, 0) (0, 0) sh_S (I) 112 [(0, .int (x)), (1, .int (60)), (2, .int (y))] [.int (if ¬ ((y) ≤ (x)) then 1 else 0)] Q := by
    refine mm_cN1i (dz := d - 1) dX6_join_112 rfl mzX11_asBit (by decide) imX11_asBit (by omega) cx_asBit (Nat.le_of_ble_eq_true rfl) ⟨Nat.le_refl _, Nat.le_refl _⟩ ?_
    refine mm_iret dX6_join_115 rfl ⟨Nat.le_refl _, Nat.le_refl _⟩ ?_
    exact mm_l1 (by by_cases q1 : y ≤ x <;> simp [sp_dn, q1]) hq
  refine mm_icmp_ge (tgt := 111) dX6_join_104 (by decide) (fun c104 => ?_) (fun c104 => ?_)
  · refine mm_iconst (v := 0) dX6_join_111 rfl ?_
    exact mm_top (by first | rfl | (simp [c104]; done) | (rw [if_pos (by simp_all)]; done) | (rw [if_neg (by simp_all)]; done) | (rw [if_pos (by omega)]; done) | (rw [if_neg (by omega)]; done)) K104
  · refine mm_iconst (v := 1) dX6_join_107 rfl ?_
    refine mm_goto (tgt := 112) dX6_join_108 (by decide) ?_
    exact mm_top (by first | rfl | (simp [c104]; done) | (rw [if_pos (by simp_all)]; done) | (rw [if_neg (by simp_all)]; done) | (rw [if_pos (by omega)]; done) | (rw [if_neg (by omega)]; done)) K104
set_option maxRecDepth 100000 in
set_option maxHeartbeats 600000 in
theorem cg_join3 {g : mm_G} {d : Nat} {I : mm_I} {x y : Int32} (hd : 1 ≤ d) : mm_Ci g zX6_join d [.int (x), .int (61), .int (y)] sh_S (I) (sp_dn x y 3) (I) := by
  refine mm_Ci_of (fun Q hq => ?_)
  refine mm_begin (ls := [(0, .int (x)), (1, .int (61)), (2, .int (y))]) (Nat.le_of_ble_eq_true rfl) rfl rfl ?_
  refine mm_iload_n 1 dX6_join_0 rfl rfl ?_
  refine mm_lookup (off := 115) (tgt := 116) dX6_join_1 (by decide) (by decide) (by decide) ?_
  refine mm_iload_n 0 dX6_join_116 rfl rfl ?_
  refine mm_iload_n 2 dX6_join_117 rfl rfl ?_
  have K118 : mm_Ex g zX6_join d (0, 0) (0, 0) sh_S (I) 126 [(0, .int (x)), (1, .int (61)), (2, .int (y))] [.int (if (x) = (y) then 1 else 0)] Q := by
    refine mm_cN1i (dz := d - 1) dX6_join_126 rfl mzX11_asBit (by decide) imX11_asBit (by omega) cx_asBit (Nat.le_of_ble_eq_true rfl) ⟨Nat.le_refl _, Nat.le_refl _⟩ ?_
    refine mm_iret dX6_join_129 rfl ⟨Nat.le_refl _, Nat.le_refl _⟩ ?_
    exact mm_l1 (by by_cases q1 : x = y <;> simp [sp_dn, q1]) hq
  refine mm_icmp_ne (tgt := 125) dX6_join_118 (by decide) (fun c118 => ?_) (fun c118 => ?_)
  · refine mm_iconst (v := 0) dX6_join_125 rfl ?_
    exact mm_top (by first | rfl | (simp [c118]; done) | (rw [if_pos (by simp_all)]; done) | (rw [if_neg (by simp_all)]; done) | (rw [if_pos (by omega)]; done) | (rw [if_neg (by omega)]; done)) K118
  · refine mm_iconst (v := 1) dX6_join_121 rfl ?_
    refine mm_goto (tgt := 126) dX6_join_122 (by decide) ?_
    exact mm_top (by first | rfl | (simp [c118]; done) | (rw [if_pos (by simp_all)]; done) | (rw [if_neg (by simp_all)]; done) | (rw [if_pos (by omega)]; done) | (rw [if_neg (by omega)]; done)) K118
set_option maxRecDepth 100000 in
set_option maxHeartbeats 600000 in
theorem cg_join4 {g : mm_G} {d : Nat} {I : mm_I} {x y : Int32} (hd : 1 ≤ d) : mm_Ci g zX6_join d [.int (x), .int (62), .int (y)] sh_S (I) (sp_dn x y 4) (I) := by
  refine mm_Ci_of (fun Q hq => ?_)
  refine mm_begin (ls := [(0, .int (x)), (1, .int (62)), (2, .int (y))]) (Nat.le_of_ble_eq_true rfl) rfl rfl ?_
  refine mm_iload_n 1 dX6_join_0 rfl rfl ?_
  refine mm_lookup (off := 129) (tgt := 130) dX6_join_1 (by decide) (by decide) (by decide) ?_
  refine mm_iload_n 0 dX6_join_130 rfl rfl ?_
  refine mm_iload_n 2 dX6_join_131 rfl rfl ?_
  have K132 : mm_Ex g zX6_join d (0, 0) (0, 0) sh_S (I) 140 [(0, .int (x)), (1, .int (62)), (2, .int (y))] [.int (if ¬ ((x) ≤ (y)) then 1 else 0)] Q := by
    refine mm_cN1i (dz := d - 1) dX6_join_140 rfl mzX11_asBit (by decide) imX11_asBit (by omega) cx_asBit (Nat.le_of_ble_eq_true rfl) ⟨Nat.le_refl _, Nat.le_refl _⟩ ?_
    refine mm_iret dX6_join_143 rfl ⟨Nat.le_refl _, Nat.le_refl _⟩ ?_
    exact mm_l1 (by by_cases q1 : x ≤ y <;> simp [sp_dn, q1]) hq
  refine mm_icmp_le (tgt := 139) dX6_join_132 (by decide) (fun c132 => ?_) (fun c132 => ?_)
  · refine mm_iconst (v := 0) dX6_join_139 rfl ?_
    exact mm_top (by first | rfl | (simp [c132]; done) | (rw [if_pos (by simp_all)]; done) | (rw [if_neg (by simp_all)]; done) | (rw [if_pos (by omega)]; done) | (rw [if_neg (by omega)]; done)) K132
  · refine mm_iconst (v := 1) dX6_join_135 rfl ?_
    refine mm_goto (tgt := 140) dX6_join_136 (by decide) ?_
    exact mm_top (by first | rfl | (simp [c132]; done) | (rw [if_pos (by simp_all)]; done) | (rw [if_neg (by simp_all)]; done) | (rw [if_pos (by omega)]; done) | (rw [if_neg (by omega)]; done)) K132
set_option maxRecDepth 100000 in
set_option maxHeartbeats 600000 in
theorem cg_join5 {g : mm_G} {d : Nat} {I : mm_I} {x y : Int32} (hd : 1 ≤ d) : mm_Ci g zX6_join d [.int (x), .int (43), .int (y)] sh_S (I) (sp_dn x y 5) (I) := by
  refine mm_Ci_of (fun Q hq => ?_)
  refine mm_begin (ls := [(0, .int (x)), (1, .int (43)), (2, .int (y))]) (Nat.le_of_ble_eq_true rfl) rfl rfl ?_
  refine mm_iload_n 1 dX6_join_0 rfl rfl ?_
  refine mm_lookup (off := 143) (tgt := 144) dX6_join_1 (by decide) (by decide) (by decide) ?_
  refine mm_iload_n 0 dX6_join_144 rfl rfl ?_
  refine mm_iload_n 2 dX6_join_145 rfl rfl ?_
  refine mm_iadd dX6_join_146 ?_
  refine mm_iret dX6_join_147 rfl ⟨Nat.le_refl _, Nat.le_refl _⟩ ?_
  exact mm_l1 (rfl) hq
set_option maxRecDepth 100000 in
set_option maxHeartbeats 600000 in
theorem cg_join6 {g : mm_G} {d : Nat} {I : mm_I} {x y : Int32} (hd : 1 ≤ d) : mm_Ci g zX6_join d [.int (x), .int (45), .int (y)] sh_S (I) (sp_dn x y 6) (I) := by
  refine mm_Ci_of (fun Q hq => ?_)
  refine mm_begin (ls := [(0, .int (x)), (1, .int (45)), (2, .int (y))]) (Nat.le_of_ble_eq_true rfl) rfl rfl ?_
  refine mm_iload_n 1 dX6_join_0 rfl rfl ?_
  refine mm_lookup (off := 147) (tgt := 148) dX6_join_1 (by decide) (by decide) (by decide) ?_
  refine mm_iload_n 0 dX6_join_148 rfl rfl ?_
  refine mm_iload_n 2 dX6_join_149 rfl rfl ?_
  refine mm_isub dX6_join_150 ?_
  refine mm_iret dX6_join_151 rfl ⟨Nat.le_refl _, Nat.le_refl _⟩ ?_
  exact mm_l1 (rfl) hq
set_option maxRecDepth 100000 in
set_option maxHeartbeats 600000 in
theorem cg_join7 {g : mm_G} {d : Nat} {I : mm_I} {x y : Int32} (hd : 1 ≤ d) : mm_Ci g zX6_join d [.int (x), .int (42), .int (y)] sh_S (I) (sp_dn x y 7) (I) := by
  refine mm_Ci_of (fun Q hq => ?_)
  refine mm_begin (ls := [(0, .int (x)), (1, .int (42)), (2, .int (y))]) (Nat.le_of_ble_eq_true rfl) rfl rfl ?_
  refine mm_iload_n 1 dX6_join_0 rfl rfl ?_
  refine mm_lookup (off := 151) (tgt := 152) dX6_join_1 (by decide) (by decide) (by decide) ?_
  refine mm_iload_n 0 dX6_join_152 rfl rfl ?_
  refine mm_iload_n 2 dX6_join_153 rfl rfl ?_
  refine mm_imul dX6_join_154 ?_
  refine mm_iret dX6_join_155 rfl ⟨Nat.le_refl _, Nat.le_refl _⟩ ?_
  exact mm_l1 (rfl) hq
theorem cg_join {g : mm_G} {d : Nat} {I : mm_I} {x y : Int32} {j : Nat} (hj : j < 8) (hd : 1 ≤ d) : mm_Ci g zX6_join d [.int x, .int ((mm_sx 13).getD j 0), .int y] sh_S I (sp_dn x y j) I := by
  rcases show j = 0 ∨ j = 1 ∨ j = 2 ∨ j = 3 ∨ j = 4 ∨ j = 5 ∨ j = 6 ∨ j = 7 by omega with e | e | e | e | e | e | e | e <;> subst e
  · exact cg_join0 hd
  · exact cg_join1 hd
  · exact cg_join2 hd
  · exact cg_join3 hd
  · exact cg_join4 hd
  · exact cg_join5 hd
  · exact cg_join6 hd
  · exact cg_join7 hd
