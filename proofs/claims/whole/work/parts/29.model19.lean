/-! THE REFERENCE: what an expression is worth. Stack: height, places -/
abbrev ev_S : Type := Nat × (Nat → Int32)
def ev_s (en : Nat → Int32) (c : Nat) (s : ev_S) : ev_S := if c < 10000 then (s.1 + 1, upd s.2 s.1 (nI c)) else if c < 20000 then (s.1 + 1, upd s.2 s.1 (en (c - 10000))) else if c = 20008 then (s.1, upd s.2 (s.1 - 1) (if s.2 (s.1 - 1) = 0 then 1 else 0)) else (s.1 - 1, upd s.2 (s.1 - 1 - 1) (sp_dn (s.2 (s.1 - 1 - 1)) (s.2 (s.1 - 1)) (c - 20000)))
def ev (en : Nat → Int32) : List Nat → ev_S → ev_S
  | [], s => s
  | c :: cs, s => ev en cs (ev_s en c s)
def wf : List Nat → Nat → Prop
  | [], h => h = 1
  | c :: cs, h => if c < 20000 then (c < 10000 ∨ c - 10000 < 10) ∧ h + 1 ≤ 96 ∧ wf cs (h + 1) else if c = 20008 then 1 ≤ h ∧ h ≤ 96 ∧ wf cs h else c < 20008 ∧ 2 ≤ h ∧ h ≤ 96 ∧ wf cs (h - 1)
def vo_at (N : Nat → Int32) : Nat → List Nat → Prop
  | K, [] => N K = 30000
  | K, c :: cs => N K = nI c ∧ c < 30000 ∧ vo_at N (K + 1) cs
def vo_m (I : mm_I) (f : Nat → Int32) : mm_I := fun a => if a = 210 then f else I a
theorem vo_m_f {I : mm_I} {f : Nat → Int32} {i : Nat} : vo_m I f 210 i = f i := rfl
theorem vo_m_n {I : mm_I} {f : Nat → Int32} {a i : Nat} (h : a ≠ 210) : vo_m I f a i = I a i := by unfold vo_m; rw [if_neg h]
theorem vo_m_a {I : mm_I} {f : Nat → Int32} {a : Nat} (h : a ≠ 210) : vo_m I f a = I a := by unfold vo_m; rw [if_neg h]
theorem vo_m_u {I : mm_I} {f : Nat → Int32} {i : Nat} {x : Int32} : mm_up (vo_m I f) 210 i x = vo_m I (upd f i x) := by
  funext a j
  by_cases e : a = 210
  · subst e; unfold mm_up upd; rw [if_pos rfl]; rfl
  · rw [mm_up_ne e, vo_m_n e, vo_m_n e]
theorem vo_m_s {I : mm_I} : vo_m I (I 210) = I := by
  funext a
  by_cases e : a = 210
  · subst e; rfl
  · rw [vo_m_a e]
theorem nI_m1 {h : Nat} (h1 : 1 ≤ h) : nI h + (-1) = nI (h - 1) := by
  have e := nI_pred (h - 1)
  rw [show h - 1 + 1 = h by omega] at e
  rw [← e, Int32.sub_eq_add_neg]
theorem cm_namedM {g : mm_G} {I : mm_I} {d : Nat} {f : Nat → Int32} {w h : Nat} (hW : mo_W (I 201) w h) {la lb : Nat} (h2 : I 201 2 = nI la) (h3 : I 201 3 = nI lb) (hla : 1 ≤ la ∧ la ≤ 24) (hlb : lb ≤ 24) {m c k : Nat} (hmm : m < 5) (hc1 : I 201 (630 + 40 * m + 1) = nI c) (hcl : c < 80) (hk : k < 10) (hd : 2 ≤ d) : mm_Ci g zX12_named d [.ref 200, .int (nI m), .int (nI k)] sh_S (vo_m I f) (sp_nm (I 201) w m c k) (vo_m I f) := by
  have hh := cm_named (g := g) (d := d) (I := vo_m I f) (w := w) (h := h) (k := k) (by rw [vo_m_a (by decide)]; exact hW) (by rw [vo_m_a (by decide)]; exact h2) (by rw [vo_m_a (by decide)]; exact h3) hla hlb hmm (by rw [vo_m_a (by decide)]; exact hc1) hcl hk hd
  rw [vo_m_a (by decide)] at hh
  exact hh
set_option maxRecDepth 100000 in
set_option maxHeartbeats 600000 in
theorem lm_vo {g : mm_G} {I : mm_I} {d : Nat} {Q : Option Value → mm_Sh → mm_I → Prop} {w h : Nat} (hW : mo_W (I 201) w h) {la lb : Nat} (h2 : I 201 2 = nI la) (h3 : I 201 3 = nI lb) (hla : 1 ≤ la ∧ la ≤ 24) (hlb : lb ≤ 24) {m c : Nat} (hmm : m < 5) (hc1 : I 201 (630 + 40 * m + 1) = nI c) (hcl : c < 80) {p pl : Int32} (hd : 3 ≤ d) : ∀ (cs : List Nat) (K hh : Nat) (f : Nat → Int32), vo_at (I 201) K cs → wf cs hh → K + cs.length < 3734 → Q (some (.int ((ev (sp_nm (I 201) w m c) cs (hh, f)).2 0))) sh_S (vo_m I (ev (sp_nm (I 201) w m c) cs (hh, f)).2) → mm_Ex g zX12_valueOf d (0, 0) (0, 0) sh_S (vo_m I f) 20 [(5, .int (nI (K))), (4, .int (nI (hh))), (0, .ref 200), (1, .int (nI (m))), (2, .int (p)), (3, .int (pl))] [] Q := by
  have hc := mo_W_c hW
  intro cs
  induction cs with
  | nil =>
    intro K hh f hv hw hK hq
    have hK : K < 3734 := hK
    have hv : I 201 K = 30000 := hv
    refine mm_aload_n 2 dX12_valueOf_20 rfl rfl ?_
    refine mm_getr (b := 201) dX12_valueOf_21 rfl fk_X12_9 rfl so_200 sr_200_0 ?_
    refine mm_iload 0 dX12_valueOf_24 rfl ?_
    refine mm_ialdN (K) dX12_valueOf_26 sa_201 (by omega) (by omega) ?_
    refine mm_top (v := 30000) ((vo_m_n (by decide)).trans hv) ?_
    refine mm_sipush (v := 30000) dX12_valueOf_27 rfl ?_
    refine mm_icmp_eq (tgt := 167) dX12_valueOf_30 (by decide) (fun _ => ?_) (fun q => absurd (by decide) q)
    refine mm_aload_n 2 dX12_valueOf_167 rfl rfl ?_
    refine mm_getr (b := 210) dX12_valueOf_168 rfl fk_X12_62 rfl so_200 sr_200_20 ?_
    refine mm_iconst (v := 0) dX12_valueOf_171 rfl ?_
    refine mm_ialdN (0) dX12_valueOf_172 sa_210 (by omega) (by omega) ?_
    refine mm_top (v := f 0) rfl ?_
    refine mm_iret dX12_valueOf_173 rfl ⟨Nat.le_refl _, Nat.le_refl _⟩ ?_
    exact hq
  | cons x cs ih =>
    intro K hh f hv hw hK hq
    have hK : K + (cs.length + 1) < 3734 := hK
    have hx3 := hv.2.1
    refine mm_aload_n 2 dX12_valueOf_20 rfl rfl ?_
    refine mm_getr (b := 201) dX12_valueOf_21 rfl fk_X12_9 rfl so_200 sr_200_0 ?_
    refine mm_iload 0 dX12_valueOf_24 rfl ?_
    refine mm_ialdN (K) dX12_valueOf_26 sa_201 (by omega) (by omega) ?_
    refine mm_top (v := nI (x)) ((vo_m_n (by decide)).trans hv.1) ?_
    refine mm_sipush (v := 30000) dX12_valueOf_27 rfl ?_
    refine mm_icmp_eqN (x) (30000) (tgt := 167) dX12_valueOf_30 (by decide) (by omega) (by omega) (fun c30 => ?_) (fun c30 => ?_)
    · exact absurd c30 (by omega)
    · refine mm_aload_n 2 dX12_valueOf_33 rfl rfl ?_
      refine mm_getr (b := 201) dX12_valueOf_34 rfl fk_X12_9 rfl so_200 sr_200_0 ?_
      refine mm_iload 0 dX12_valueOf_37 rfl ?_
      refine mm_ialdN (K) dX12_valueOf_39 sa_201 (by omega) (by omega) ?_
      refine mm_top (v := nI (x)) ((vo_m_n (by decide)).trans hv.1) ?_
      refine mm_istore (ls' := [(6, .int (nI (x))), (5, .int (nI (K))), (4, .int (nI (hh))), (0, .ref 200), (1, .int (nI (m))), (2, .int (p)), (3, .int (pl))]) dX12_valueOf_40 (by decide) rfl ?_
      refine mm_iincN (ls' := [(5, .int (nI (K + 1))), (6, .int (nI (x))), (4, .int (nI (hh))), (0, .ref 200), (1, .int (nI (m))), (2, .int (p)), (3, .int (pl))]) 1 (K) 1 dX12_valueOf_42 rfl rfl (by decide) rfl ?_
      refine mm_iload 1 dX12_valueOf_45 rfl ?_
      refine mm_at (pc' := 47) rfl ?_
      refine mm_sipush (v := 20000) dX12_valueOf_47 rfl ?_
      refine mm_icmp_geN (x) (20000) (tgt := 90) dX12_valueOf_50 (by decide) (by omega) (by omega) (fun c50 => ?_) (fun c50 => ?_)
      · refine mm_iload 1 dX12_valueOf_90 rfl ?_
        refine mm_sipush (v := 20008) dX12_valueOf_92 rfl ?_
        refine mm_icmp_neN (x) (20008) (tgt := 127) dX12_valueOf_95 (by decide) (by omega) (by omega) (fun c95 => ?_) (fun c95 => ?_)
        · rw [wf, if_neg (show ¬ x < 20000 by omega), if_neg (show ¬ x = 20008 by omega)] at hw
          obtain ⟨hw1, hw2, hw3, hw4⟩ := hw
          refine mm_iinc (v := nI (hh) + (-1)) (ls' := [(4, .int (nI (hh) + (-1))), (5, .int (nI (K + 1))), (6, .int (nI (x))), (0, .ref 200), (1, .int (nI (m))), (2, .int (p)), (3, .int (pl))]) 2 dX12_valueOf_127 rfl rfl (by decide) rfl ?_
          rw [show nI (hh) + (-1) = nI (hh - 1) from nI_m1 (by omega)]
          refine mm_aload_n 3 dX12_valueOf_130 rfl rfl ?_
          refine mm_getr (b := 210) dX12_valueOf_131 rfl fk_X12_62 rfl so_200 sr_200_20 ?_
          refine mm_iload 0 dX12_valueOf_134 rfl ?_
          refine mm_iconst (v := 1) dX12_valueOf_136 rfl ?_
          refine mm_isubN (hh - 1) (1) dX12_valueOf_137 (by omega) ?_
          refine mm_iload 2 dX12_valueOf_138 rfl ?_
          refine mm_sipush (v := 20000) dX12_valueOf_140 rfl ?_
          refine mm_at (pc' := 143) rfl ?_
          refine mm_isubN (x) (20000) dX12_valueOf_143 (by omega) ?_
          refine mm_aload_n 3 dX12_valueOf_144 rfl rfl ?_
          refine mm_getr (b := 210) dX12_valueOf_145 rfl fk_X12_62 rfl so_200 sr_200_20 ?_
          refine mm_iload 0 dX12_valueOf_148 rfl ?_
          refine mm_iconst (v := 1) dX12_valueOf_150 rfl ?_
          refine mm_isubN (hh - 1) (1) dX12_valueOf_151 (by omega) ?_
          refine mm_ialdN ((hh - 1) - 1) dX12_valueOf_152 sa_210 (by omega) (by omega) ?_
          refine mm_top (v := f (hh - 1 - 1)) rfl ?_
          refine mm_aload_n 3 dX12_valueOf_153 rfl rfl ?_
          refine mm_at (pc' := 154) rfl ?_
          refine mm_getr (b := 210) dX12_valueOf_154 rfl fk_X12_62 rfl so_200 sr_200_20 ?_
          refine mm_iload 0 dX12_valueOf_157 rfl ?_
          refine mm_ialdN (hh - 1) dX12_valueOf_159 sa_210 (by omega) (by omega) ?_
          refine mm_top (v := f (hh - 1)) rfl ?_
          refine mm_cS3i (dz := d - 1) dX12_valueOf_160 rfl mzX12_done ml_X12_259 imX12_done (by omega) (cm_done (by omega)) (Nat.le_of_ble_eq_true rfl) ⟨Nat.le_refl _, Nat.le_refl _⟩ ?_
          refine mm_iastN ((hh - 1) - 1) dX12_valueOf_163 sa_210 (by omega) (by omega) ?_
          refine mm_goto (tgt := 20) dX12_valueOf_164 (by decide) ?_
          rw [show ev (sp_nm (I 201) w m c) (x :: cs) (hh, f) = ev (sp_nm (I 201) w m c) cs (ev_s (sp_nm (I 201) w m c) x (hh, f)) from rfl, ev_s, if_neg (show ¬ x < 10000 by omega), if_neg (show ¬ x < 20000 by omega), if_neg (show ¬ x = 20008 by omega)] at hq
          rw [vo_m_u]
          exact mm_sub [1, 0, 3, 4, 5, 6] rfl (ih (K + 1) _ _ hv.2.2 hw4 (by omega) hq)
        · rw [wf, if_neg (show ¬ x < 20000 by omega), if_pos (show x = 20008 by omega)] at hw
          obtain ⟨hw1, hw2, hw3⟩ := hw
          refine mm_aload_n 3 dX12_valueOf_98 rfl rfl ?_
          refine mm_getr (b := 210) dX12_valueOf_99 rfl fk_X12_62 rfl so_200 sr_200_20 ?_
          refine mm_iload 2 dX12_valueOf_102 rfl ?_
          refine mm_iconst (v := 1) dX12_valueOf_104 rfl ?_
          refine mm_isubN (hh) (1) dX12_valueOf_105 (by omega) ?_
          refine mm_aload_n 3 dX12_valueOf_106 rfl rfl ?_
          refine mm_getr (b := 210) dX12_valueOf_107 rfl fk_X12_62 rfl so_200 sr_200_20 ?_
          refine mm_at (pc' := 110) rfl ?_
          refine mm_iload 2 dX12_valueOf_110 rfl ?_
          refine mm_iconst (v := 1) dX12_valueOf_112 rfl ?_
          refine mm_isubN (hh) (1) dX12_valueOf_113 (by omega) ?_
          refine mm_ialdN (hh - 1) dX12_valueOf_114 sa_210 (by omega) (by omega) ?_
          refine mm_top (v := f (hh - 1)) rfl ?_
          have K115 : mm_Ex g zX12_valueOf d (0, 0) (0, 0) sh_S (vo_m I f) 123 [(5, .int (nI (K + 1))), (6, .int (nI (x))), (4, .int (nI (hh))), (0, .ref 200), (1, .int (nI (m))), (2, .int (p)), (3, .int (pl))] [.int (if (f (hh - 1)) = 0 then 1 else 0), .int (nI (hh - 1)), .ref 210] Q := by
            refine mm_iastN (hh - 1) dX12_valueOf_123 sa_210 (by omega) (by omega) ?_
            refine mm_goto (tgt := 164) dX12_valueOf_124 (by decide) ?_
            refine mm_goto (tgt := 20) dX12_valueOf_164 (by decide) ?_
            rw [show ev (sp_nm (I 201) w m c) (x :: cs) (hh, f) = ev (sp_nm (I 201) w m c) cs (ev_s (sp_nm (I 201) w m c) x (hh, f)) from rfl, ev_s, if_neg (show ¬ x < 10000 by omega), if_neg (show ¬ x < 20000 by omega), if_pos (show x = 20008 by omega)] at hq
            rw [vo_m_u]
            exact mm_sub [0, 2, 3, 4, 5, 6] rfl (ih (K + 1) _ _ hv.2.2 hw3 (by omega) hq)
          refine mm_if_ne (tgt := 122) dX12_valueOf_115 (by decide) (fun c115 => ?_) (fun c115 => ?_)
          · refine mm_iconst (v := 0) dX12_valueOf_122 rfl ?_
            exact mm_top (by first | rfl | (simp [c115]; done) | (rw [if_pos (by simp_all)]; done) | (rw [if_neg (by simp_all)]; done) | (rw [if_pos (by omega)]; done) | (rw [if_neg (by omega)]; done)) K115
          · refine mm_iconst (v := 1) dX12_valueOf_118 rfl ?_
            refine mm_goto (tgt := 123) dX12_valueOf_119 (by decide) ?_
            exact mm_top (by first | rfl | (simp [c115]; done) | (rw [if_pos (by simp_all)]; done) | (rw [if_neg (by simp_all)]; done) | (rw [if_pos (by omega)]; done) | (rw [if_neg (by omega)]; done)) K115
      · rw [wf, if_pos (show x < 20000 by omega)] at hw
        obtain ⟨hw1, hw2, hw3⟩ := hw
        refine mm_aload_n 3 dX12_valueOf_53 rfl rfl ?_
        refine mm_getr (b := 210) dX12_valueOf_54 rfl fk_X12_62 rfl so_200 sr_200_20 ?_
        refine mm_iload 2 dX12_valueOf_57 rfl ?_
        refine mm_iload 1 dX12_valueOf_59 rfl ?_
        refine mm_sipush (v := 10000) dX12_valueOf_61 rfl ?_
        refine mm_icmp_geN (x) (10000) (tgt := 72) dX12_valueOf_64 (by decide) (by omega) (by omega) (fun c64 => ?_) (fun c64 => ?_)
        · refine mm_aload_n 3 dX12_valueOf_72 rfl rfl ?_
          refine mm_iload_n 4 dX12_valueOf_73 rfl rfl ?_
          refine mm_iload 1 dX12_valueOf_74 rfl ?_
          refine mm_sipush (v := 10000) dX12_valueOf_76 rfl ?_
          refine mm_isubN (x) (10000) dX12_valueOf_79 (by omega) ?_
          refine mm_cV2i (dz := d - 1) dX12_valueOf_80 rfl mzX12_named ml_X12_256 imX12_named (by omega) so_200 ⟨rfl, rfl⟩ (cm_namedM hW h2 h3 hla hlb hmm hc1 hcl (by omega) (by omega)) (Nat.le_of_ble_eq_true rfl) ⟨Nat.le_refl _, Nat.le_refl _⟩ ?_
          refine mm_iastN (hh) dX12_valueOf_83 sa_210 (by omega) (by omega) ?_
          refine mm_iincN (ls' := [(4, .int (nI (hh + 1))), (5, .int (nI (K + 1))), (6, .int (nI (x))), (0, .ref 200), (1, .int (nI (m))), (2, .int (p)), (3, .int (pl))]) 2 (hh) 1 dX12_valueOf_84 rfl rfl (by decide) rfl ?_
          refine mm_at (pc' := 87) rfl ?_
          refine mm_goto (tgt := 164) dX12_valueOf_87 (by decide) ?_
          refine mm_goto (tgt := 20) dX12_valueOf_164 (by decide) ?_
          rw [show ev (sp_nm (I 201) w m c) (x :: cs) (hh, f) = ev (sp_nm (I 201) w m c) cs (ev_s (sp_nm (I 201) w m c) x (hh, f)) from rfl, ev_s, if_neg (show ¬ x < 10000 by omega), if_pos (show x < 20000 by omega)] at hq
          rw [vo_m_u]
          exact mm_sub [1, 0, 3, 4, 5, 6] rfl (ih (K + 1) _ _ hv.2.2 hw3 (by omega) hq)
        · refine mm_iload 1 dX12_valueOf_67 rfl ?_
          refine mm_goto (tgt := 83) dX12_valueOf_69 (by decide) ?_
          refine mm_iastN (hh) dX12_valueOf_83 sa_210 (by omega) (by omega) ?_
          refine mm_iincN (ls' := [(4, .int (nI (hh + 1))), (5, .int (nI (K + 1))), (6, .int (nI (x))), (0, .ref 200), (1, .int (nI (m))), (2, .int (p)), (3, .int (pl))]) 2 (hh) 1 dX12_valueOf_84 rfl rfl (by decide) rfl ?_
          refine mm_goto (tgt := 164) dX12_valueOf_87 (by decide) ?_
          refine mm_goto (tgt := 20) dX12_valueOf_164 (by decide) ?_
          rw [show ev (sp_nm (I 201) w m c) (x :: cs) (hh, f) = ev (sp_nm (I 201) w m c) cs (ev_s (sp_nm (I 201) w m c) x (hh, f)) from rfl, ev_s, if_pos (show x < 10000 by omega)] at hq
          rw [vo_m_u]
          exact mm_sub [1, 0, 3, 4, 5, 6] rfl (ih (K + 1) _ _ hv.2.2 hw3 (by omega) hq)
def co (N : Nat → Int32) : Nat → Nat → List Nat
  | 0, _ => []
  | f + 1, K => if N K = 30000 then [] else vv (N K) :: co N f (K + 1)
def mo_X (N : Nat → Int32) (K : Nat) : Prop := vo_at N K (co N 160 K) ∧ wf (co N 160 K) 0 ∧ K + (co N 160 K).length < 3734
/-- the worth of what begins at K -/
def sp_vo (I : mm_I) (w m c K : Nat) : ev_S := ev (sp_nm (I 201) w m c) (co (I 201) 160 K) (0, I 210)
set_option maxRecDepth 100000 in
set_option maxHeartbeats 600000 in
theorem cm_valueOf {g : mm_G} {I : mm_I} {d : Nat} {w h : Nat} (hW : mo_W (I 201) w h) {la lb : Nat} (h2 : I 201 2 = nI la) (h3 : I 201 3 = nI lb) (hla : 1 ≤ la ∧ la ≤ 24) (hlb : lb ≤ 24) {m c : Nat} (hmm : m < 5) (hc1 : I 201 (630 + 40 * m + 1) = nI c) (hcl : c < 80) {p e : Nat} (hp : p < 6) (he : e < 160) (hX : mo_X (I 201) (1226 + 418 * p + 258 + e)) (hd : 3 ≤ d) : mm_Ci g zX12_valueOf d [.ref 200, .int (nI m), .int (nI p), .int (nI e)] sh_S I ((sp_vo I w m c (1226 + 418 * p + 258 + e)).2 0) (vo_m I (sp_vo I w m c (1226 + 418 * p + 258 + e)).2) := by
  refine mm_Ci_of (fun Q hq => ?_)
  refine mm_begin (ls := [(0, .ref 200), (1, .int (nI (m))), (2, .int (nI (p))), (3, .int (nI (e)))]) (Nat.le_of_ble_eq_true rfl) rfl rfl ?_
  refine mm_iconst (v := 0) dX12_valueOf_0 rfl ?_
  refine mm_istore (ls' := [(4, .int (0)), (0, .ref 200), (1, .int (nI (m))), (2, .int (nI (p))), (3, .int (nI (e)))]) dX12_valueOf_1 (by decide) rfl ?_
  refine mm_sipush (v := 1226) dX12_valueOf_3 rfl ?_
  refine mm_sipush (v := 418) dX12_valueOf_6 rfl ?_
  refine mm_iload_n 3 dX12_valueOf_9 rfl rfl ?_
  refine mm_imulN (418) (p) dX12_valueOf_10 ?_
  refine mm_iaddN (1226) (418 * p) dX12_valueOf_11 ?_
  refine mm_sipush (v := 258) dX12_valueOf_12 rfl ?_
  refine mm_at (pc' := 15) rfl ?_
  refine mm_iaddN (1226 + (418 * p)) (258) dX12_valueOf_15 ?_
  refine mm_iload_n 4 dX12_valueOf_16 rfl rfl ?_
  refine mm_iaddN ((1226 + (418 * p)) + 258) (e) dX12_valueOf_17 ?_
  refine mm_istore (ls' := [(5, .int (nI (((1226 + (418 * p)) + 258) + e))), (4, .int (0)), (0, .ref 200), (1, .int (nI (m))), (2, .int (nI (p))), (3, .int (nI (e)))]) dX12_valueOf_18 (by decide) rfl ?_
  have hh := lm_vo (g := g) (Q := Q) hW h2 h3 hla hlb hmm hc1 hcl (p := nI p) (pl := nI e) (d := d) hd (co (I 201) 160 (1226 + 418 * p + 258 + e)) (1226 + 418 * p + 258 + e) 0 (I 210) hX.1 hX.2.1 hX.2.2 hq
  rw [vo_m_s] at hh
  exact mm_sub [0, 1, 2, 3, 4, 5] rfl hh
