/-! THE REFERENCE'S READER: a program -/
theorem nI_all (x : Int32) : ∃ n, x = nI n := ⟨x.toBitVec.toNat, by
  show x = Int32.ofNat x.toBitVec.toNat
  apply Int32.toBitVec_inj.mp
  simp⟩
def op_pe (J : mm_I) (p : Nat) : Nat → mm_I
  | 0 => J
  | m + 1 => mm_up (op_pe J p m) 201 (630 + 40 * m + 6) (if J 201 (630 + 40 * m + 6) = nI p then -1 else J 201 (630 + 40 * m + 6))
theorem op_pe_ne {J : mm_I} {p a x : Nat} : ∀ m, (a = 201 → ∀ k, k < m → x ≠ 630 + 40 * k + 6) → op_pe J p m a x = J a x := by
  intro m
  induction m with
  | zero => intro _; rfl
  | succ m ih =>
    intro h
    unfold op_pe
    by_cases ha : a = 201
    · rw [ha] at h ⊢
      rw [mm_up_ni (h rfl m (by omega))]
      have := ih (fun q k hk => by rw [ha] at q; exact h rfl k (by omega))
      rw [ha] at this; exact this
    · rw [mm_up_ne ha]; exact ih (fun q => absurd q ha)
def pg_J (J : mm_I) (p n : Nat) : mm_I := op_pe (mm_up J 200 18 (nI p)) p n
def pg_N (J : mm_I) (p n : Nat) : Nat → Int32 := upd (pg_J J p n 201) (1226 + 418 * p) 0
def pg_R (J : mm_I) (p n t : Nat) : rS := (r_row (tK (J 203) t) (tV (J 203) t) p 4 (-1) (true, 0, pg_N J p n, [], 0)).2
abbrev pg_ok (J : mm_I) (p n t : Nat) : Prop := (pg_R J p n t).1 = true ∧ tK (J 203) t (pg_R J p n t).2.1 = 400
def pg_Z (J : mm_I) (p n t fl : Nat) : mm_I := pz (mm_up (pg_J J p n) 200 4 0) p (tq (J 203) t (pg_R J p n t).2.1) fl 0 0 0 (pg_R J p n t).2.2.1 (pg_R J p n t).2.2.2.1
def op_pg (J : mm_I) (p n t : Nat) : Int32 × mm_I := if pg_ok J p n t then (nI (pg_R J p n t).2.2.2.2, pg_Z J p n t 0) else ((-100) - nI (tq (J 203) t (pg_R J p n t).2.1).1, mm_up (pg_Z J p n t 1) 201 (1226 + 418 * p) 0)
def op_program (n t : Nat) (J : mm_I) (x : Int32) : Int32 × mm_I := if ¬ sp_wi x 0 5 then ((-1000000001), mm_up J 200 4 0) else op_pg J (vv x) n t
theorem pg_J_a {J : mm_I} {p n a : Nat} (h1 : a ≠ 200) (h2 : a ≠ 201) : pg_J J p n a = J a := by
  funext i; unfold pg_J
  rw [op_pe_ne n (fun q => absurd q h2), mm_up_ne h1]
theorem pg_J_200 {J : mm_I} {p n i : Nat} (h : i ≠ 18) : pg_J J p n 200 i = J 200 i := by
  unfold pg_J
  rw [op_pe_ne n (fun q => absurd q (by decide)), mm_up_ni h]
theorem pg_J_18 {J : mm_I} {p n : Nat} : pg_J J p n 200 18 = nI p := by
  unfold pg_J
  rw [op_pe_ne n (fun q => absurd q (by decide)), mm_up_at]
/-- the memory when the reading begins -/
theorem pg_start {J : mm_I} {p f0 : Nat} (hf : J 200 11 = nI f0) : mm_up (mm_up (mm_up (mm_up (mm_up (mm_up (mm_up (mm_up J 201 (1226 + 418 * p) 0) 201 (1226 + 418 * p + 257) 0) 200 12 0) 200 13 0) 200 14 0) 200 15 0) 200 16 0) 200 17 0 = pz J p (f0, 0, 0) 0 0 0 0 (upd (J 201) (1226 + 418 * p) 0) [] := by
  funext a i
  by_cases e : a = 201
  · subst e
    rw [mm_up_ne (by decide), mm_up_ne (by decide), mm_up_ne (by decide), mm_up_ne (by decide), mm_up_ne (by decide), mm_up_ne (by decide)]
    show _ = nc (upd (J 201) (1226 + 418 * p) 0) p [] i
    unfold nc
    by_cases e2 : i = 1226 + 418 * p + 257
    · rw [e2, mm_up_at, if_pos rfl]; rfl
    · rw [mm_up_ni e2, if_neg e2, if_neg (by simp only [List.length_nil]; omega), mm_up_self]
  · by_cases e2 : a = 200
    · subst e2
      show _ = (if i = 11 then nI f0 else if i = 12 then nI 0 else if i = 13 then nI 0 else if i = 14 then nI 0 else if i = 15 then nI 0 else if i = 16 then nI 0 else if i = 17 then nI 0 else J 200 i)
      by_cases h7 : i = 17
      · subst h7; rw [mm_up_at]; rfl
      rw [mm_up_ni h7]
      by_cases h6 : i = 16
      · subst h6; rw [mm_up_at]; rfl
      rw [mm_up_ni h6]
      by_cases h5 : i = 15
      · subst h5; rw [mm_up_at]; rfl
      rw [mm_up_ni h5]
      by_cases h4 : i = 14
      · subst h4; rw [mm_up_at]; rfl
      rw [mm_up_ni h4]
      by_cases h3 : i = 13
      · subst h3; rw [mm_up_at]; rfl
      rw [mm_up_ni h3]
      by_cases h2 : i = 12
      · subst h2; rw [mm_up_at]; rfl
      rw [mm_up_ni h2, mm_up_ne (by decide), mm_up_ne (by decide)]
      by_cases h1 : i = 11
      · subst h1; rw [hf]; rfl
      rw [if_neg h1, if_neg h2, if_neg h3, if_neg h4, if_neg h5, if_neg h6, if_neg h7]
    · rw [mm_up_ne e2, mm_up_ne e2, mm_up_ne e2, mm_up_ne e2, mm_up_ne e2, mm_up_ne e2, mm_up_ne e, mm_up_ne e, pz_n e e2]
/-- what lies beside is changed beside -/
theorem pz_out {J : mm_I} {p : Nat} {q : Nat × Nat × Nat} {fl bs br ns : Nat} {N : Nat → Int32} {CS : List Nat} {v : Int32} : mm_up (pz J p q fl bs br ns N CS) 200 4 v = pz (mm_up J 200 4 v) p q fl bs br ns N CS := by
  funext a i
  by_cases e : a = 200
  · subst e
    by_cases e2 : i = 4
    · subst e2; rw [mm_up_at, pz_200 (by decide), mm_up_at]
    · rw [mm_up_ni e2]
      by_cases e3 : i < 11 ∨ 17 < i
      · rw [pz_200 e3, pz_200 e3, mm_up_ni e2]
      · rcases (show i = 11 ∨ i = 12 ∨ i = 13 ∨ i = 14 ∨ i = 15 ∨ i = 16 ∨ i = 17 by omega) with rfl | rfl | rfl | rfl | rfl | rfl | rfl <;> rfl
  · rw [mm_up_ne e]
    by_cases e2 : a = 201
    · subst e2; rfl
    · rw [pz_n e2 e, pz_n e2 e]; funext; rw [mm_up_ne e]
set_option maxRecDepth 100000 in
set_option maxHeartbeats 600000 in
theorem lm_pe {g : mm_G} {I : mm_I} {d : Nat} {Q : Option Value → mm_Sh → mm_I → Prop} {n : Nat} (hm : I 201 16 = nI n) (hm5 : n ≤ 5) {p : Nat} (hd : 1 ≤ d) (hx : mm_Ex g zX12_program d (0, 0) (0, 0) sh_S (op_pe I p n) 82 [(2, .int (nI n)), (0, .ref 200), (1, .int (nI p))] [] Q) : ∀ (m : Nat) (i : Nat), (i ≤ n) → n - i < m → mm_Ex g zX12_program d (0, 0) (0, 0) sh_S (op_pe I p i) 24 [(2, .int (nI (i))), (0, .ref 200), (1, .int (nI (p)))] [] Q := by
  intro m
  induction m with
  | zero => intro i hi hmz; exact absurd hmz (Nat.not_lt_zero _)
  | succ m ih =>
    intro i hi hmz
    refine mm_iload_n 0 dX12_program_24 rfl rfl ?_
    refine mm_aload_n 1 dX12_program_25 rfl rfl ?_
    refine mm_getr (b := 201) dX12_program_26 rfl fk_X12_9 rfl so_200 sr_200_0 ?_
    refine mm_bipush (v := 16) dX12_program_29 rfl ?_
    refine mm_ialdN (16) dX12_program_31 sa_201 (by omega) (by omega) ?_
    refine mm_top (v := nI (n)) ((op_pe_ne i (fun _ k _ => by omega)).trans hm) ?_
    refine mm_icmp_geN (i) (n) (tgt := 82) dX12_program_32 (by decide) (by omega) (by omega) (fun c32 => ?_) (fun c32 => ?_)
    · have e : i = n := by omega
      subst e
      exact hx
    · refine mm_aload_n 1 dX12_program_35 rfl rfl ?_
      refine mm_getr (b := 201) dX12_program_36 rfl fk_X12_9 rfl so_200 sr_200_0 ?_
      refine mm_iload_n 0 dX12_program_39 rfl rfl ?_
      refine mm_bipush (v := 6) dX12_program_40 rfl ?_
      refine mm_cS2i (dz := d - 1) dX12_program_42 rfl mzX12_of ml_X12_87 imX12_of (by omega) (cm_of (i) (6)) (Nat.le_of_ble_eq_true rfl) ⟨Nat.le_refl _, Nat.le_refl _⟩ ?_
      refine mm_aload_n 1 dX12_program_45 rfl rfl ?_
      refine mm_getr (b := 201) dX12_program_46 rfl fk_X12_9 rfl so_200 sr_200_0 ?_
      refine mm_at (pc' := 49) rfl ?_
      refine mm_iload_n 0 dX12_program_49 rfl rfl ?_
      refine mm_bipush (v := 6) dX12_program_50 rfl ?_
      refine mm_cS2i (dz := d - 1) dX12_program_52 rfl mzX12_of ml_X12_87 imX12_of (by omega) (cm_of (i) (6)) (Nat.le_of_ble_eq_true rfl) ⟨Nat.le_refl _, Nat.le_refl _⟩ ?_
      refine mm_ialdN (630 + 40 * i + 6) dX12_program_55 sa_201 (by omega) (by omega) ?_
      refine mm_top (v := I 201 (630 + 40 * i + 6)) (op_pe_ne i (fun _ k _ => by omega)) ?_
      refine mm_iload_n 2 dX12_program_56 rfl rfl ?_
      refine mm_icmp_ne (tgt := 64) dX12_program_57 (by decide) (fun c57 => ?_) (fun c57 => ?_)
      · refine mm_aload_n 1 dX12_program_64 rfl rfl ?_
        refine mm_getr (b := 201) dX12_program_65 rfl fk_X12_9 rfl so_200 sr_200_0 ?_
        refine mm_iload_n 0 dX12_program_68 rfl rfl ?_
        refine mm_bipush (v := 6) dX12_program_69 rfl ?_
        refine mm_cS2i (dz := d - 1) dX12_program_71 rfl mzX12_of ml_X12_87 imX12_of (by omega) (cm_of (i) (6)) (Nat.le_of_ble_eq_true rfl) ⟨Nat.le_refl _, Nat.le_refl _⟩ ?_
        refine mm_ialdN (630 + 40 * i + 6) dX12_program_74 sa_201 (by omega) (by omega) ?_
        refine mm_top (v := I 201 (630 + 40 * i + 6)) (op_pe_ne i (fun _ k _ => by omega)) ?_
        refine mm_iastN (630 + 40 * i + 6) dX12_program_75 sa_201 (by omega) (by omega) ?_
        refine mm_iincN (ls' := [(2, .int (nI (i + 1))), (0, .ref 200), (1, .int (nI (p)))]) 0 (i) 1 dX12_program_76 rfl rfl (by decide) rfl ?_
        refine mm_at (pc' := 79) rfl ?_
        refine mm_goto (tgt := 24) dX12_program_79 (by decide) ?_
        have hh := ih (i + 1) (by omega) (by omega)
        unfold op_pe at hh
        first | rw [if_pos c57] at hh | rw [if_neg c57] at hh
        exact hh
      · refine mm_iconst (v := -1) dX12_program_60 rfl ?_
        refine mm_goto (tgt := 75) dX12_program_61 (by decide) ?_
        refine mm_iastN (630 + 40 * i + 6) dX12_program_75 sa_201 (by omega) (by omega) ?_
        refine mm_iincN (ls' := [(2, .int (nI (i + 1))), (0, .ref 200), (1, .int (nI (p)))]) 0 (i) 1 dX12_program_76 rfl rfl (by decide) rfl ?_
        refine mm_goto (tgt := 24) dX12_program_79 (by decide) ?_
        have hh := ih (i + 1) (by omega) (by omega)
        unfold op_pe at hh
        first | rw [if_pos c57] at hh | rw [if_neg c57] at hh
        exact hh
