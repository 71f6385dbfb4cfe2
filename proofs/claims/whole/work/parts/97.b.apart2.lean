/-! Rule 10: areApart of the class. -/
/-- the table's own sectors -/
noncomputable def s_ts (w : Nat → Int32) (i : Nat) : List Nat := s_JL (fun j => [(w (2 + j)).toNatClampNeg]) [] i
noncomputable def s_JB (w : Nat → Int32) (f : Nat) (l lb lt : List Nat) : List Nat := s_ts w f ++ l ++ lb ++ lt
/-- rule 10 -/
def s_10 (w : Nat → Int32) (N : Int32) (f : Nat) (l o lb lt : List Nat) (cnt : Nat) : Prop := (s_JL (s_lg w N l o lt cnt) (s_JB w f l lb lt) 12).Nodup ∧ (s_JL (s_sl w N l o lt cnt) [] 12).Nodup
theorem s_ts_mem {w : Nat → Int32} {i x : Nat} : x ∈ s_ts w i ↔ ∃ j, j < i ∧ x = (w (2 + j)).toNatClampNeg := by
  induction i with
  | zero =>
    unfold s_ts
    simp [s_JL]
  | succ i ih =>
    unfold s_ts at ih ⊢
    rw [s_JL, List.mem_append, ih, List.mem_singleton]
    constructor
    · rintro (⟨j, h1, h2⟩ | h)
      · exact ⟨j, by omega, h2⟩
      · exact ⟨i, by omega, h⟩
    · rintro ⟨j, h1, h2⟩
      by_cases e : j = i
      · rw [e] at h2; exact Or.inr h2
      · exact Or.inl ⟨j, by omega, h2⟩
theorem s_ts_nd {w : Nat → Int32} {N : Int32} {f : Nat} (hf : s_ft w N f) (h : s_p1 w N f) : ∀ i, i ≤ f → (s_ts w i).Nodup := by
  intro i
  induction i with
  | zero => intro _; unfold s_ts; simp [s_JL]
  | succ i ih =>
    intro hi
    have h1 := ih (by omega)
    have : s_ts w (i + 1) = s_ts w i ++ [(w (2 + i)).toNatClampNeg] := rfl
    rw [this, v_ndap h1 (by simp)]
    intro x hx hmem
    rw [List.mem_singleton] at hx
    obtain ⟨j, hj, hje⟩ := s_ts_mem.mp hmem
    obtain ⟨a, ea, -, -, -, a4⟩ := s_ok_nat hf (h j (Nat.zero_le _) (by omega)).1
    obtain ⟨b, eb, -, -, -, b4⟩ := s_ok_nat hf (h i (Nat.zero_le _) (by omega)).1
    refine (h i (Nat.zero_le _) (by omega)).2 j (Nat.zero_le _) hj ?_
    rw [ea, eb]
    rw [a4] at hje
    rw [b4] at hx
    congr 1
    omega
section V97b
variable {X : vi_Ex} {M : Nat → Nat → Int32} {post : Option Value → vi_Me → Prop} {l o lt lb : List Nat} {w : Nat → Int32} {n cnt f : Nat} {rs : Int32}
/-- the streams claim theirs -/
theorem w67 (h : c_tab M f) (hw : M 2 = w) (h12 : M 4 12 = Int32.ofNat n) (ho : ∀ q ∈ o, q < n) (hr : ∀ q, q < 12 → M 12 q = if q ∈ o then 1 else 0) (h8 : ∀ q, q < n → M 8 q = s_fld w l q 1) (h9 : ∀ q, q < n → M 9 q = s_fld w l q 2) (h10 : ∀ q, q < n → M 10 q = s_fld w l q 3) (hn : n ≤ 12) (hl24 : lt.length ≤ 24) (hc : cnt ≤ 96) (hrs : rs / 2 = Int32.ofNat cnt) (hsm : c_sm M w rs lb lt)
    (hst : ∀ j, 1 ≤ j → j < 12 → s_st w l o j → s_9 w (M 1 2) l lt cnt j) {B : List Nat}
    (hp : ∀ M', vsame [23, 24, 25, 26] M M' → post (some (.int (vtf ((s_JL (s_lg w (M 1 2) l o lt cnt) B 12).Nodup ∧ (s_JL (s_sl w (M 1 2) l o lt cnt) [] 12).Nodup)))) (v_sh, M')) :
    ∀ (d k : Nat) (M' : Nat → Nat → Int32) (y : Option Value), k + d = 12 → 1 ≤ k → vsame [23, 24, 25, 26] M M' → (∀ s, s < 24 → M' 25 s = if s ∈ s_JL (s_lg w (M 1 2) l o lt cnt) B k then 1 else 0) → (∀ s, s < 96 → M' 26 s = if s ∈ s_JL (s_sl w (M 1 2) l o lt cnt) [] k then 1 else 0) → (s_JL (s_lg w (M 1 2) l o lt cnt) B k).Nodup → (s_JL (s_sl w (M 1 2) l o lt cnt) [] k).Nodup → vw X 67 vc67_103 [some (.ref 22), some (.ref 5), some (.int (Int32.ofNat k)), y] [] (v_sh, M') post := by
  have hf : s_ft w (M 1 2) f := by rw [← hw]; exact h.1
  intro d
  induction d with
  | zero =>
    intro k M' y hk h1 hs t25 t26 n25 n26
    have hk : k = 12 := by omega
    subst hk
    have := hp M' hs
    rw [vtf_t ⟨n25, n26⟩] at this
    simp only [vc67_103, vb67_133, vc67_133, vw_icm1, vw_ic0, vw_ic1, vw_ic2, vw_ic3, vw_ic4, vw_ic5, vw_bi, vw_si, vw_lc, vw_ldc, vw_ldc2, vw_il0, vw_iln0, vw_is0, vw_isn0, vw_il1, vw_iln1, vw_is1, vw_isn1, vw_il2, vw_iln2, vw_is2, vw_isn2, vw_il3, vw_iln3, vw_is3, vw_isn3, vw_il4, vw_is4, vw_il5, vw_is5, vw_il6, vw_is6, vw_il7, vw_is7, vw_al0, vw_aln0, vw_as0, vw_asn0, vw_al1, vw_aln1, vw_as1, vw_asn1, vw_al2, vw_aln2, vw_as2, vw_asn2, vw_al3, vw_aln3, vw_as3, vw_asn3, vw_al4, vw_as4, vw_al5, vw_as5, vw_al6, vw_as6, vw_al7, vw_as7, vw_ll0, vw_lln0, vw_ls0, vw_lsn0, vw_ll1, vw_lln1, vw_ls1, vw_lsn1, vw_ll2, vw_lln2, vw_ls2, vw_lsn2, vw_ll3, vw_lln3, vw_ls3, vw_lsn3, vw_ll4, vw_ls4, vw_ll5, vw_ls5, vw_ll6, vw_ls6, vw_ll7, vw_iinc0, vw_iinc1, vw_iinc2, vw_iinc3, vw_iinc4, vw_iinc5, vw_iinc6, vw_iinc7, vw_iadd, vw_isub, vw_imul, vw_iand, vw_ior, vw_ixor, vw_ishl, vw_ishr, vw_iushr, vw_idiv, vw_irem, vw_ladd, vw_lsub, vw_lmul, vw_ldiv, vw_lcmp, vw_i2l, vw_l2i, vw_dupi, vw_dupr, vw_goto, vw_ic_eq, vw_if_eq, vw_ic_ne, vw_if_ne, vw_ic_lt, vw_if_lt, vw_ic_ge, vw_if_ge, vw_ic_gt, vw_if_gt, vw_ic_le, vw_if_le, vw_gf, vw_pf, vw_iaload, vw_baload, vw_iastore, vw_bastore, vw_alen, vw_gs, vw_aaload, vw_iret, vw_zret, vw_lret, vw_aret, vw_vret, vw_st0, vw_iv0, vw_st1, vw_iv1, vw_st2, vw_iv2, vw_st3, vw_iv3, vw_st4, vw_iv4, vw_st5, vw_iv5, vkt_v, vkt_n, vg_some, vgi_some, vgi_if, vps_some, vps_if, vcat_nil, vcat_i, vcat_r, vcat_l, vcl_n, vcl_i, vcl_r, vcl_l, Int.reduceToNat, Nat.reduceAdd, Nat.reduceLeDiff, true_and, and_true, true_or, or_true, Option.map_some, Int32.reduceToNatClampNeg, Int32.reduceLT, Int32.reduceLE, vq_1, vq_2, vq_3, vq_4, vq_5, vq_6, vq_7, vq_8, vq_9, vq_10, vq_11, vq_12, vq_13, vq_14, vq_15, vq_16, vq_17, vq_18, vq_19, vq_20, vq_m1, vq_00, Int32.reduceAdd, Int32.reduceSub, Int32.reduceMul, Nat.reduceLT, not_true_eq_false, not_false_eq_true, false_imp_iff, true_imp_iff, false_and, and_false, and_self, vbi_m3, vbi_m2, vbi_6, vbi_7, vbi_8, vbi_9, vbi_10, vbi_11, vbi_12, vbi_13, vbi_14, vbi_15, vbi_16, vbi_17, vbi_18, vbi_19, vbi_20, vbi_21, vbi_24, vbi_31, vbi_32, vbi_33, vbi_47, vbi_48, vbi_96, vbi_97, vbi_122, vbi_126, vsi_128, vsi_129, vsi_192, vsi_200, vsi_255, vsi_256, vsi_338, vsi_339, vsi_352, vsi_353, vsi_376, vsi_400, vsi_402, vsi_710, vsi_732, vsi_4096, vsi_8211, vsi_8212, vsi_8216, vsi_8217, vsi_8218, vsi_8220, vsi_8221, vsi_8222, vsi_8224, vsi_8225, vsi_8226, vsi_8230, vsi_8240, vsi_8249, vsi_8250, vsi_8482, vsi_21552, vsi_21553, vld_m1073741825, vld_m1, vld_1, vld_6, vld_42476, vld_4476739, vld_218951966, vld_1073741824, vlj_2, vlj_3, vlj_7, vlj_8, vlj_256, vlj_1099511627776, vlc_0, vlc_1, show Int32.ofNat 12 = 12 from rfl]
    exact this
  | succ d ih =>
    intro k M' y hk h1 hs t25 t26 n25 n26
    have hk12 : Int32.ofNat k < 12 := (v_oflt (b := 12) (by omega) (by decide)).mpr (by omega)
    have e : ∀ r, r ∉ [23, 24, 25, 26] → M' r = M r := hs
    have e1 : M' 1 = M 1 := e 1 (by decide)
    have e2 : M' 2 = M 2 := e 2 (by decide)
    have e3 : M' 3 = M 3 := e 3 (by decide)
    have e4 : M' 4 = M 4 := e 4 (by decide)
    have e8 : M' 8 = M 8 := e 8 (by decide)
    have e9 : M' 9 = M 9 := e 9 (by decide)
    have e10 : M' 10 = M 10 := e 10 (by decide)
    have e12 : M' 12 = M 12 := e 12 (by decide)
    have htab : c_tab M' f := by unfold c_tab; rw [e1, e2, e3]; exact h
    have hsm' : c_sm M' w rs lb lt := by
      unfold c_sm
      rw [e 17 (by decide), e 18 (by decide), e 19 (by decide), e 20 (by decide), e 16 (by decide), e 21 (by decide)]
      exact hsm
    have hnext : ∀ N, vsame [23, 24, 25, 26] M N → (∀ s, s < 24 → N 25 s = if s ∈ s_JL (s_lg w (M 1 2) l o lt cnt) B (k + 1) then 1 else 0) → (∀ s, s < 96 → N 26 s = if s ∈ s_JL (s_sl w (M 1 2) l o lt cnt) [] (k + 1) then 1 else 0) → (s_JL (s_lg w (M 1 2) l o lt cnt) B (k + 1)).Nodup → (s_JL (s_sl w (M 1 2) l o lt cnt) [] (k + 1)).Nodup → vw X 67 vc67_127 [some (.ref 22), some (.ref 5), some (.int (Int32.ofNat k)), y] [] (v_sh, N) post := by
      intro N hN a b c d'
      have := ih (k + 1) N y (by omega) (by omega) hN a b c d'
      simp only [vc67_127, vw_icm1, vw_ic0, vw_ic1, vw_ic2, vw_ic3, vw_ic4, vw_ic5, vw_bi, vw_si, vw_lc, vw_ldc, vw_ldc2, vw_il0, vw_iln0, vw_is0, vw_isn0, vw_il1, vw_iln1, vw_is1, vw_isn1, vw_il2, vw_iln2, vw_is2, vw_isn2, vw_il3, vw_iln3, vw_is3, vw_isn3, vw_il4, vw_is4, vw_il5, vw_is5, vw_il6, vw_is6, vw_il7, vw_is7, vw_al0, vw_aln0, vw_as0, vw_asn0, vw_al1, vw_aln1, vw_as1, vw_asn1, vw_al2, vw_aln2, vw_as2, vw_asn2, vw_al3, vw_aln3, vw_as3, vw_asn3, vw_al4, vw_as4, vw_al5, vw_as5, vw_al6, vw_as6, vw_al7, vw_as7, vw_ll0, vw_lln0, vw_ls0, vw_lsn0, vw_ll1, vw_lln1, vw_ls1, vw_lsn1, vw_ll2, vw_lln2, vw_ls2, vw_lsn2, vw_ll3, vw_lln3, vw_ls3, vw_lsn3, vw_ll4, vw_ls4, vw_ll5, vw_ls5, vw_ll6, vw_ls6, vw_ll7, vw_iinc0, vw_iinc1, vw_iinc2, vw_iinc3, vw_iinc4, vw_iinc5, vw_iinc6, vw_iinc7, vw_iadd, vw_isub, vw_imul, vw_iand, vw_ior, vw_ixor, vw_ishl, vw_ishr, vw_iushr, vw_idiv, vw_irem, vw_ladd, vw_lsub, vw_lmul, vw_ldiv, vw_lcmp, vw_i2l, vw_l2i, vw_dupi, vw_dupr, vw_goto, vw_ic_eq, vw_if_eq, vw_ic_ne, vw_if_ne, vw_ic_lt, vw_if_lt, vw_ic_ge, vw_if_ge, vw_ic_gt, vw_if_gt, vw_ic_le, vw_if_le, vw_gf, vw_pf, vw_iaload, vw_baload, vw_iastore, vw_bastore, vw_alen, vw_gs, vw_aaload, vw_iret, vw_zret, vw_lret, vw_aret, vw_vret, vw_st0, vw_iv0, vw_st1, vw_iv1, vw_st2, vw_iv2, vw_st3, vw_iv3, vw_st4, vw_iv4, vw_st5, vw_iv5, vkt_v, vkt_n, vg_some, vgi_some, vgi_if, vps_some, vps_if, vcat_nil, vcat_i, vcat_r, vcat_l, vcl_n, vcl_i, vcl_r, vcl_l, Int.reduceToNat, Nat.reduceAdd, Nat.reduceLeDiff, true_and, and_true, true_or, or_true, Option.map_some, Int32.reduceToNatClampNeg, Int32.reduceLT, Int32.reduceLE, vq_1, vq_2, vq_3, vq_4, vq_5, vq_6, vq_7, vq_8, vq_9, vq_10, vq_11, vq_12, vq_13, vq_14, vq_15, vq_16, vq_17, vq_18, vq_19, vq_20, vq_m1, vq_00, Int32.reduceAdd, Int32.reduceSub, Int32.reduceMul, Nat.reduceLT, not_true_eq_false, not_false_eq_true, false_imp_iff, true_imp_iff, false_and, and_false, and_self, vbi_m3, vbi_m2, vbi_6, vbi_7, vbi_8, vbi_9, vbi_10, vbi_11, vbi_12, vbi_13, vbi_14, vbi_15, vbi_16, vbi_17, vbi_18, vbi_19, vbi_20, vbi_21, vbi_24, vbi_31, vbi_32, vbi_33, vbi_47, vbi_48, vbi_96, vbi_97, vbi_122, vbi_126, vsi_128, vsi_129, vsi_192, vsi_200, vsi_255, vsi_256, vsi_338, vsi_339, vsi_352, vsi_353, vsi_376, vsi_400, vsi_402, vsi_710, vsi_732, vsi_4096, vsi_8211, vsi_8212, vsi_8216, vsi_8217, vsi_8218, vsi_8220, vsi_8221, vsi_8222, vsi_8224, vsi_8225, vsi_8226, vsi_8230, vsi_8240, vsi_8249, vsi_8250, vsi_8482, vsi_21552, vsi_21553, vld_m1073741825, vld_m1, vld_1, vld_6, vld_42476, vld_4476739, vld_218951966, vld_1073741824, vlj_2, vlj_3, vlj_7, vlj_8, vlj_256, vlj_1099511627776, vlc_0, vlc_1, v_inc]
      rw [vb67_103]
      exact this
    have hbad : ¬ ((s_JL (s_lg w (M 1 2) l o lt cnt) B (k + 1)).Nodup ∧ (s_JL (s_sl w (M 1 2) l o lt cnt) [] (k + 1)).Nodup) → ∀ N, vsame [23, 24, 25, 26] M N → post (some (.int 0)) (v_sh, N) := by
      intro g N hN
      have := hp N hN
      rw [vtf_f (fun q => g ⟨s_JL_nd (by omega) q.1, s_JL_nd (by omega) q.2⟩)] at this
      exact this
    have hnn := v_nn (show k < 2147483648 by omega)
    simp only [vc67_103, vb67_127, vw_icm1, vw_ic0, vw_ic1, vw_ic2, vw_ic3, vw_ic4, vw_ic5, vw_bi, vw_si, vw_lc, vw_ldc, vw_ldc2, vw_il0, vw_iln0, vw_is0, vw_isn0, vw_il1, vw_iln1, vw_is1, vw_isn1, vw_il2, vw_iln2, vw_is2, vw_isn2, vw_il3, vw_iln3, vw_is3, vw_isn3, vw_il4, vw_is4, vw_il5, vw_is5, vw_il6, vw_is6, vw_il7, vw_is7, vw_al0, vw_aln0, vw_as0, vw_asn0, vw_al1, vw_aln1, vw_as1, vw_asn1, vw_al2, vw_aln2, vw_as2, vw_asn2, vw_al3, vw_aln3, vw_as3, vw_asn3, vw_al4, vw_as4, vw_al5, vw_as5, vw_al6, vw_as6, vw_al7, vw_as7, vw_ll0, vw_lln0, vw_ls0, vw_lsn0, vw_ll1, vw_lln1, vw_ls1, vw_lsn1, vw_ll2, vw_lln2, vw_ls2, vw_lsn2, vw_ll3, vw_lln3, vw_ls3, vw_lsn3, vw_ll4, vw_ls4, vw_ll5, vw_ls5, vw_ll6, vw_ls6, vw_ll7, vw_iinc0, vw_iinc1, vw_iinc2, vw_iinc3, vw_iinc4, vw_iinc5, vw_iinc6, vw_iinc7, vw_iadd, vw_isub, vw_imul, vw_iand, vw_ior, vw_ixor, vw_ishl, vw_ishr, vw_iushr, vw_idiv, vw_irem, vw_ladd, vw_lsub, vw_lmul, vw_ldiv, vw_lcmp, vw_i2l, vw_l2i, vw_dupi, vw_dupr, vw_goto, vw_ic_eq, vw_if_eq, vw_ic_ne, vw_if_ne, vw_ic_lt, vw_if_lt, vw_ic_ge, vw_if_ge, vw_ic_gt, vw_if_gt, vw_ic_le, vw_if_le, vw_gf, vw_pf, vw_iaload, vw_baload, vw_iastore, vw_bastore, vw_alen, vw_gs, vw_aaload, vw_iret, vw_zret, vw_lret, vw_aret, vw_vret, vw_st0, vw_iv0, vw_st1, vw_iv1, vw_st2, vw_iv2, vw_st3, vw_iv3, vw_st4, vw_iv4, vw_st5, vw_iv5, vkt_v, vkt_n, vg_some, vgi_some, vgi_if, vps_some, vps_if, vcat_nil, vcat_i, vcat_r, vcat_l, vcl_n, vcl_i, vcl_r, vcl_l, Int.reduceToNat, Nat.reduceAdd, Nat.reduceLeDiff, true_and, and_true, true_or, or_true, Option.map_some, Int32.reduceToNatClampNeg, Int32.reduceLT, Int32.reduceLE, vq_1, vq_2, vq_3, vq_4, vq_5, vq_6, vq_7, vq_8, vq_9, vq_10, vq_11, vq_12, vq_13, vq_14, vq_15, vq_16, vq_17, vq_18, vq_19, vq_20, vq_m1, vq_00, Int32.reduceAdd, Int32.reduceSub, Int32.reduceMul, Nat.reduceLT, not_true_eq_false, not_false_eq_true, false_imp_iff, true_imp_iff, false_and, and_false, and_self, vbi_m3, vbi_m2, vbi_6, vbi_7, vbi_8, vbi_9, vbi_10, vbi_11, vbi_12, vbi_13, vbi_14, vbi_15, vbi_16, vbi_17, vbi_18, vbi_19, vbi_20, vbi_21, vbi_24, vbi_31, vbi_32, vbi_33, vbi_47, vbi_48, vbi_96, vbi_97, vbi_122, vbi_126, vsi_128, vsi_129, vsi_192, vsi_200, vsi_255, vsi_256, vsi_338, vsi_339, vsi_352, vsi_353, vsi_376, vsi_400, vsi_402, vsi_710, vsi_732, vsi_4096, vsi_8211, vsi_8212, vsi_8216, vsi_8217, vsi_8218, vsi_8220, vsi_8221, vsi_8222, vsi_8224, vsi_8225, vsi_8226, vsi_8230, vsi_8240, vsi_8249, vsi_8250, vsi_8482, vsi_21552, vsi_21553, vld_m1073741825, vld_m1, vld_1, vld_6, vld_42476, vld_4476739, vld_218951966, vld_1073741824, vlj_2, vlj_3, vlj_7, vlj_8, vlj_256, vlj_1099511627776, vlc_0, vlc_1, vis22, hk12, Int32.not_le.mpr hk12, m60 (M := M') (w := w) (l := l) (o := o) hn (by rw [e4]; exact h12) ho (by rw [e12]; exact hr) (by rw [e8]; exact h8), vtf_0, v_ofx (show k < 2147483648 by omega), hnn]
    by_cases g : s_st w l o k
    · simp only [g, vkt_v, vkt_n, vg_some, vgi_some, vgi_if, vps_some, vps_if, vcat_nil, vcat_i, vcat_r, vcat_l, vcl_n, vcl_i, vcl_r, vcl_l, Int.reduceToNat, Nat.reduceAdd, Nat.reduceLeDiff, true_and, and_true, true_or, or_true, Option.map_some, Int32.reduceToNatClampNeg, Int32.reduceLT, Int32.reduceLE, vq_1, vq_2, vq_3, vq_4, vq_5, vq_6, vq_7, vq_8, vq_9, vq_10, vq_11, vq_12, vq_13, vq_14, vq_15, vq_16, vq_17, vq_18, vq_19, vq_20, vq_m1, vq_00, Int32.reduceAdd, Int32.reduceSub, Int32.reduceMul, Nat.reduceLT, not_true_eq_false, not_false_eq_true, false_imp_iff, true_imp_iff, false_and, and_false, and_self]
      obtain ⟨g0, p, hch, -⟩ := hst k h1 (by omega) g
      obtain ⟨o1, o2, o3, o4⟩ := s_chn_ok hf hl24 hc hch
      by_cases gl : 16 ≤ s_fld w l k 3
      · have elg : s_lg w (M 1 2) l o lt cnt k = p := by
          unfold s_lg
          rw [if_pos ⟨h1, g, gl⟩, hch]
          rfl
        have esl : s_sl w (M 1 2) l o lt cnt k = [] := by
          unfold s_sl
          rw [if_neg (fun q => q.2.2 gl)]
        refine m70 htab (by rw [e2]; exact hw) (by rw [e9]; exact h9) (by rw [e10]; exact h10) hn (ho k g.1) hl24 hc hrs hsm' (by rw [e1]; exact hch) t25 t26 (fun _ hd N hN r25 r26 => ?_) (fun q => absurd gl q) (fun _ hx N hN => ?_) (fun q => absurd gl q)
        · have := hnext N (hs.tr hN) (by rw [s_JL, elg]; exact r25) (by rw [s_JL, esl, r26, List.append_nil]; exact t26) (by rw [s_JL, elg, v_ndap n25 o1]; exact hd) (by rw [s_JL, esl, List.append_nil]; exact n26)
          simp only [vb67_127, vw_icm1, vw_ic0, vw_ic1, vw_ic2, vw_ic3, vw_ic4, vw_ic5, vw_bi, vw_si, vw_lc, vw_ldc, vw_ldc2, vw_il0, vw_iln0, vw_is0, vw_isn0, vw_il1, vw_iln1, vw_is1, vw_isn1, vw_il2, vw_iln2, vw_is2, vw_isn2, vw_il3, vw_iln3, vw_is3, vw_isn3, vw_il4, vw_is4, vw_il5, vw_is5, vw_il6, vw_is6, vw_il7, vw_is7, vw_al0, vw_aln0, vw_as0, vw_asn0, vw_al1, vw_aln1, vw_as1, vw_asn1, vw_al2, vw_aln2, vw_as2, vw_asn2, vw_al3, vw_aln3, vw_as3, vw_asn3, vw_al4, vw_as4, vw_al5, vw_as5, vw_al6, vw_as6, vw_al7, vw_as7, vw_ll0, vw_lln0, vw_ls0, vw_lsn0, vw_ll1, vw_lln1, vw_ls1, vw_lsn1, vw_ll2, vw_lln2, vw_ls2, vw_lsn2, vw_ll3, vw_lln3, vw_ls3, vw_lsn3, vw_ll4, vw_ls4, vw_ll5, vw_ls5, vw_ll6, vw_ls6, vw_ll7, vw_iinc0, vw_iinc1, vw_iinc2, vw_iinc3, vw_iinc4, vw_iinc5, vw_iinc6, vw_iinc7, vw_iadd, vw_isub, vw_imul, vw_iand, vw_ior, vw_ixor, vw_ishl, vw_ishr, vw_iushr, vw_idiv, vw_irem, vw_ladd, vw_lsub, vw_lmul, vw_ldiv, vw_lcmp, vw_i2l, vw_l2i, vw_dupi, vw_dupr, vw_goto, vw_ic_eq, vw_if_eq, vw_ic_ne, vw_if_ne, vw_ic_lt, vw_if_lt, vw_ic_ge, vw_if_ge, vw_ic_gt, vw_if_gt, vw_ic_le, vw_if_le, vw_gf, vw_pf, vw_iaload, vw_baload, vw_iastore, vw_bastore, vw_alen, vw_gs, vw_aaload, vw_iret, vw_zret, vw_lret, vw_aret, vw_vret, vw_st0, vw_iv0, vw_st1, vw_iv1, vw_st2, vw_iv2, vw_st3, vw_iv3, vw_st4, vw_iv4, vw_st5, vw_iv5, vkt_v, vkt_n, vg_some, vgi_some, vgi_if, vps_some, vps_if, vcat_nil, vcat_i, vcat_r, vcat_l, vcl_n, vcl_i, vcl_r, vcl_l, Int.reduceToNat, Nat.reduceAdd, Nat.reduceLeDiff, true_and, and_true, true_or, or_true, Option.map_some, Int32.reduceToNatClampNeg, Int32.reduceLT, Int32.reduceLE, vq_1, vq_2, vq_3, vq_4, vq_5, vq_6, vq_7, vq_8, vq_9, vq_10, vq_11, vq_12, vq_13, vq_14, vq_15, vq_16, vq_17, vq_18, vq_19, vq_20, vq_m1, vq_00, Int32.reduceAdd, Int32.reduceSub, Int32.reduceMul, Nat.reduceLT, not_true_eq_false, not_false_eq_true, false_imp_iff, true_imp_iff, false_and, and_false, and_self, vbi_m3, vbi_m2, vbi_6, vbi_7, vbi_8, vbi_9, vbi_10, vbi_11, vbi_12, vbi_13, vbi_14, vbi_15, vbi_16, vbi_17, vbi_18, vbi_19, vbi_20, vbi_21, vbi_24, vbi_31, vbi_32, vbi_33, vbi_47, vbi_48, vbi_96, vbi_97, vbi_122, vbi_126, vsi_128, vsi_129, vsi_192, vsi_200, vsi_255, vsi_256, vsi_338, vsi_339, vsi_352, vsi_353, vsi_376, vsi_400, vsi_402, vsi_710, vsi_732, vsi_4096, vsi_8211, vsi_8212, vsi_8216, vsi_8217, vsi_8218, vsi_8220, vsi_8221, vsi_8222, vsi_8224, vsi_8225, vsi_8226, vsi_8230, vsi_8240, vsi_8249, vsi_8250, vsi_8482, vsi_21552, vsi_21553, vld_m1073741825, vld_m1, vld_1, vld_6, vld_42476, vld_4476739, vld_218951966, vld_1073741824, vlj_2, vlj_3, vlj_7, vlj_8, vlj_256, vlj_1099511627776, vlc_0, vlc_1]
          exact this
        · have := hbad (fun q => by
            have q1 := q.1
            rw [s_JL, elg, v_ndap n25 o1] at q1
            obtain ⟨x, hx1, hx2⟩ := hx
            exact q1 x hx1 hx2) N (hs.tr hN)
          simp only [vb67_127, vw_icm1, vw_ic0, vw_ic1, vw_ic2, vw_ic3, vw_ic4, vw_ic5, vw_bi, vw_si, vw_lc, vw_ldc, vw_ldc2, vw_il0, vw_iln0, vw_is0, vw_isn0, vw_il1, vw_iln1, vw_is1, vw_isn1, vw_il2, vw_iln2, vw_is2, vw_isn2, vw_il3, vw_iln3, vw_is3, vw_isn3, vw_il4, vw_is4, vw_il5, vw_is5, vw_il6, vw_is6, vw_il7, vw_is7, vw_al0, vw_aln0, vw_as0, vw_asn0, vw_al1, vw_aln1, vw_as1, vw_asn1, vw_al2, vw_aln2, vw_as2, vw_asn2, vw_al3, vw_aln3, vw_as3, vw_asn3, vw_al4, vw_as4, vw_al5, vw_as5, vw_al6, vw_as6, vw_al7, vw_as7, vw_ll0, vw_lln0, vw_ls0, vw_lsn0, vw_ll1, vw_lln1, vw_ls1, vw_lsn1, vw_ll2, vw_lln2, vw_ls2, vw_lsn2, vw_ll3, vw_lln3, vw_ls3, vw_lsn3, vw_ll4, vw_ls4, vw_ll5, vw_ls5, vw_ll6, vw_ls6, vw_ll7, vw_iinc0, vw_iinc1, vw_iinc2, vw_iinc3, vw_iinc4, vw_iinc5, vw_iinc6, vw_iinc7, vw_iadd, vw_isub, vw_imul, vw_iand, vw_ior, vw_ixor, vw_ishl, vw_ishr, vw_iushr, vw_idiv, vw_irem, vw_ladd, vw_lsub, vw_lmul, vw_ldiv, vw_lcmp, vw_i2l, vw_l2i, vw_dupi, vw_dupr, vw_goto, vw_ic_eq, vw_if_eq, vw_ic_ne, vw_if_ne, vw_ic_lt, vw_if_lt, vw_ic_ge, vw_if_ge, vw_ic_gt, vw_if_gt, vw_ic_le, vw_if_le, vw_gf, vw_pf, vw_iaload, vw_baload, vw_iastore, vw_bastore, vw_alen, vw_gs, vw_aaload, vw_iret, vw_zret, vw_lret, vw_aret, vw_vret, vw_st0, vw_iv0, vw_st1, vw_iv1, vw_st2, vw_iv2, vw_st3, vw_iv3, vw_st4, vw_iv4, vw_st5, vw_iv5, vkt_v, vkt_n, vg_some, vgi_some, vgi_if, vps_some, vps_if, vcat_nil, vcat_i, vcat_r, vcat_l, vcl_n, vcl_i, vcl_r, vcl_l, Int.reduceToNat, Nat.reduceAdd, Nat.reduceLeDiff, true_and, and_true, true_or, or_true, Option.map_some, Int32.reduceToNatClampNeg, Int32.reduceLT, Int32.reduceLE, vq_1, vq_2, vq_3, vq_4, vq_5, vq_6, vq_7, vq_8, vq_9, vq_10, vq_11, vq_12, vq_13, vq_14, vq_15, vq_16, vq_17, vq_18, vq_19, vq_20, vq_m1, vq_00, Int32.reduceAdd, Int32.reduceSub, Int32.reduceMul, Nat.reduceLT, not_true_eq_false, not_false_eq_true, false_imp_iff, true_imp_iff, false_and, and_false, and_self, vbi_m3, vbi_m2, vbi_6, vbi_7, vbi_8, vbi_9, vbi_10, vbi_11, vbi_12, vbi_13, vbi_14, vbi_15, vbi_16, vbi_17, vbi_18, vbi_19, vbi_20, vbi_21, vbi_24, vbi_31, vbi_32, vbi_33, vbi_47, vbi_48, vbi_96, vbi_97, vbi_122, vbi_126, vsi_128, vsi_129, vsi_192, vsi_200, vsi_255, vsi_256, vsi_338, vsi_339, vsi_352, vsi_353, vsi_376, vsi_400, vsi_402, vsi_710, vsi_732, vsi_4096, vsi_8211, vsi_8212, vsi_8216, vsi_8217, vsi_8218, vsi_8220, vsi_8221, vsi_8222, vsi_8224, vsi_8225, vsi_8226, vsi_8230, vsi_8240, vsi_8249, vsi_8250, vsi_8482, vsi_21552, vsi_21553, vld_m1073741825, vld_m1, vld_1, vld_6, vld_42476, vld_4476739, vld_218951966, vld_1073741824, vlj_2, vlj_3, vlj_7, vlj_8, vlj_256, vlj_1099511627776, vlc_0, vlc_1]
          exact this
      · have elg : s_lg w (M 1 2) l o lt cnt k = [] := by
          unfold s_lg
          rw [if_neg (fun q => gl q.2.2)]
        have esl : s_sl w (M 1 2) l o lt cnt k = p := by
          unfold s_sl
          rw [if_pos ⟨h1, g, gl⟩, hch]
          rfl
        refine m70 htab (by rw [e2]; exact hw) (by rw [e9]; exact h9) (by rw [e10]; exact h10) hn (ho k g.1) hl24 hc hrs hsm' (by rw [e1]; exact hch) t25 t26 (fun q => absurd q gl) (fun _ hd N hN r26 r25 => ?_) (fun q => absurd q gl) (fun _ hx N hN => ?_)
        · have := hnext N (hs.tr hN) (by rw [s_JL, elg, r25, List.append_nil]; exact t25) (by rw [s_JL, esl]; exact r26) (by rw [s_JL, elg, List.append_nil]; exact n25) (by rw [s_JL, esl, v_ndap n26 o1]; exact hd)
          simp only [vb67_127, vw_icm1, vw_ic0, vw_ic1, vw_ic2, vw_ic3, vw_ic4, vw_ic5, vw_bi, vw_si, vw_lc, vw_ldc, vw_ldc2, vw_il0, vw_iln0, vw_is0, vw_isn0, vw_il1, vw_iln1, vw_is1, vw_isn1, vw_il2, vw_iln2, vw_is2, vw_isn2, vw_il3, vw_iln3, vw_is3, vw_isn3, vw_il4, vw_is4, vw_il5, vw_is5, vw_il6, vw_is6, vw_il7, vw_is7, vw_al0, vw_aln0, vw_as0, vw_asn0, vw_al1, vw_aln1, vw_as1, vw_asn1, vw_al2, vw_aln2, vw_as2, vw_asn2, vw_al3, vw_aln3, vw_as3, vw_asn3, vw_al4, vw_as4, vw_al5, vw_as5, vw_al6, vw_as6, vw_al7, vw_as7, vw_ll0, vw_lln0, vw_ls0, vw_lsn0, vw_ll1, vw_lln1, vw_ls1, vw_lsn1, vw_ll2, vw_lln2, vw_ls2, vw_lsn2, vw_ll3, vw_lln3, vw_ls3, vw_lsn3, vw_ll4, vw_ls4, vw_ll5, vw_ls5, vw_ll6, vw_ls6, vw_ll7, vw_iinc0, vw_iinc1, vw_iinc2, vw_iinc3, vw_iinc4, vw_iinc5, vw_iinc6, vw_iinc7, vw_iadd, vw_isub, vw_imul, vw_iand, vw_ior, vw_ixor, vw_ishl, vw_ishr, vw_iushr, vw_idiv, vw_irem, vw_ladd, vw_lsub, vw_lmul, vw_ldiv, vw_lcmp, vw_i2l, vw_l2i, vw_dupi, vw_dupr, vw_goto, vw_ic_eq, vw_if_eq, vw_ic_ne, vw_if_ne, vw_ic_lt, vw_if_lt, vw_ic_ge, vw_if_ge, vw_ic_gt, vw_if_gt, vw_ic_le, vw_if_le, vw_gf, vw_pf, vw_iaload, vw_baload, vw_iastore, vw_bastore, vw_alen, vw_gs, vw_aaload, vw_iret, vw_zret, vw_lret, vw_aret, vw_vret, vw_st0, vw_iv0, vw_st1, vw_iv1, vw_st2, vw_iv2, vw_st3, vw_iv3, vw_st4, vw_iv4, vw_st5, vw_iv5, vkt_v, vkt_n, vg_some, vgi_some, vgi_if, vps_some, vps_if, vcat_nil, vcat_i, vcat_r, vcat_l, vcl_n, vcl_i, vcl_r, vcl_l, Int.reduceToNat, Nat.reduceAdd, Nat.reduceLeDiff, true_and, and_true, true_or, or_true, Option.map_some, Int32.reduceToNatClampNeg, Int32.reduceLT, Int32.reduceLE, vq_1, vq_2, vq_3, vq_4, vq_5, vq_6, vq_7, vq_8, vq_9, vq_10, vq_11, vq_12, vq_13, vq_14, vq_15, vq_16, vq_17, vq_18, vq_19, vq_20, vq_m1, vq_00, Int32.reduceAdd, Int32.reduceSub, Int32.reduceMul, Nat.reduceLT, not_true_eq_false, not_false_eq_true, false_imp_iff, true_imp_iff, false_and, and_false, and_self, vbi_m3, vbi_m2, vbi_6, vbi_7, vbi_8, vbi_9, vbi_10, vbi_11, vbi_12, vbi_13, vbi_14, vbi_15, vbi_16, vbi_17, vbi_18, vbi_19, vbi_20, vbi_21, vbi_24, vbi_31, vbi_32, vbi_33, vbi_47, vbi_48, vbi_96, vbi_97, vbi_122, vbi_126, vsi_128, vsi_129, vsi_192, vsi_200, vsi_255, vsi_256, vsi_338, vsi_339, vsi_352, vsi_353, vsi_376, vsi_400, vsi_402, vsi_710, vsi_732, vsi_4096, vsi_8211, vsi_8212, vsi_8216, vsi_8217, vsi_8218, vsi_8220, vsi_8221, vsi_8222, vsi_8224, vsi_8225, vsi_8226, vsi_8230, vsi_8240, vsi_8249, vsi_8250, vsi_8482, vsi_21552, vsi_21553, vld_m1073741825, vld_m1, vld_1, vld_6, vld_42476, vld_4476739, vld_218951966, vld_1073741824, vlj_2, vlj_3, vlj_7, vlj_8, vlj_256, vlj_1099511627776, vlc_0, vlc_1]
          exact this
        · have := hbad (fun q => by
            have q1 := q.2
            rw [s_JL, esl, v_ndap n26 o1] at q1
            obtain ⟨x, hx1, hx2⟩ := hx
            exact q1 x hx1 hx2) N (hs.tr hN)
          simp only [vb67_127, vw_icm1, vw_ic0, vw_ic1, vw_ic2, vw_ic3, vw_ic4, vw_ic5, vw_bi, vw_si, vw_lc, vw_ldc, vw_ldc2, vw_il0, vw_iln0, vw_is0, vw_isn0, vw_il1, vw_iln1, vw_is1, vw_isn1, vw_il2, vw_iln2, vw_is2, vw_isn2, vw_il3, vw_iln3, vw_is3, vw_isn3, vw_il4, vw_is4, vw_il5, vw_is5, vw_il6, vw_is6, vw_il7, vw_is7, vw_al0, vw_aln0, vw_as0, vw_asn0, vw_al1, vw_aln1, vw_as1, vw_asn1, vw_al2, vw_aln2, vw_as2, vw_asn2, vw_al3, vw_aln3, vw_as3, vw_asn3, vw_al4, vw_as4, vw_al5, vw_as5, vw_al6, vw_as6, vw_al7, vw_as7, vw_ll0, vw_lln0, vw_ls0, vw_lsn0, vw_ll1, vw_lln1, vw_ls1, vw_lsn1, vw_ll2, vw_lln2, vw_ls2, vw_lsn2, vw_ll3, vw_lln3, vw_ls3, vw_lsn3, vw_ll4, vw_ls4, vw_ll5, vw_ls5, vw_ll6, vw_ls6, vw_ll7, vw_iinc0, vw_iinc1, vw_iinc2, vw_iinc3, vw_iinc4, vw_iinc5, vw_iinc6, vw_iinc7, vw_iadd, vw_isub, vw_imul, vw_iand, vw_ior, vw_ixor, vw_ishl, vw_ishr, vw_iushr, vw_idiv, vw_irem, vw_ladd, vw_lsub, vw_lmul, vw_ldiv, vw_lcmp, vw_i2l, vw_l2i, vw_dupi, vw_dupr, vw_goto, vw_ic_eq, vw_if_eq, vw_ic_ne, vw_if_ne, vw_ic_lt, vw_if_lt, vw_ic_ge, vw_if_ge, vw_ic_gt, vw_if_gt, vw_ic_le, vw_if_le, vw_gf, vw_pf, vw_iaload, vw_baload, vw_iastore, vw_bastore, vw_alen, vw_gs, vw_aaload, vw_iret, vw_zret, vw_lret, vw_aret, vw_vret, vw_st0, vw_iv0, vw_st1, vw_iv1, vw_st2, vw_iv2, vw_st3, vw_iv3, vw_st4, vw_iv4, vw_st5, vw_iv5, vkt_v, vkt_n, vg_some, vgi_some, vgi_if, vps_some, vps_if, vcat_nil, vcat_i, vcat_r, vcat_l, vcl_n, vcl_i, vcl_r, vcl_l, Int.reduceToNat, Nat.reduceAdd, Nat.reduceLeDiff, true_and, and_true, true_or, or_true, Option.map_some, Int32.reduceToNatClampNeg, Int32.reduceLT, Int32.reduceLE, vq_1, vq_2, vq_3, vq_4, vq_5, vq_6, vq_7, vq_8, vq_9, vq_10, vq_11, vq_12, vq_13, vq_14, vq_15, vq_16, vq_17, vq_18, vq_19, vq_20, vq_m1, vq_00, Int32.reduceAdd, Int32.reduceSub, Int32.reduceMul, Nat.reduceLT, not_true_eq_false, not_false_eq_true, false_imp_iff, true_imp_iff, false_and, and_false, and_self, vbi_m3, vbi_m2, vbi_6, vbi_7, vbi_8, vbi_9, vbi_10, vbi_11, vbi_12, vbi_13, vbi_14, vbi_15, vbi_16, vbi_17, vbi_18, vbi_19, vbi_20, vbi_21, vbi_24, vbi_31, vbi_32, vbi_33, vbi_47, vbi_48, vbi_96, vbi_97, vbi_122, vbi_126, vsi_128, vsi_129, vsi_192, vsi_200, vsi_255, vsi_256, vsi_338, vsi_339, vsi_352, vsi_353, vsi_376, vsi_400, vsi_402, vsi_710, vsi_732, vsi_4096, vsi_8211, vsi_8212, vsi_8216, vsi_8217, vsi_8218, vsi_8220, vsi_8221, vsi_8222, vsi_8224, vsi_8225, vsi_8226, vsi_8230, vsi_8240, vsi_8249, vsi_8250, vsi_8482, vsi_21552, vsi_21553, vld_m1073741825, vld_m1, vld_1, vld_6, vld_42476, vld_4476739, vld_218951966, vld_1073741824, vlj_2, vlj_3, vlj_7, vlj_8, vlj_256, vlj_1099511627776, vlc_0, vlc_1]
          exact this
    · have elg : s_lg w (M 1 2) l o lt cnt k = [] := by
        unfold s_lg
        rw [if_neg (fun q => g q.2.1)]
      have esl : s_sl w (M 1 2) l o lt cnt k = [] := by
        unfold s_sl
        rw [if_neg (fun q => g q.2.1)]
      have := hnext M' hs (by rw [s_JL, elg, List.append_nil]; exact t25) (by rw [s_JL, esl, List.append_nil]; exact t26) (by rw [s_JL, elg, List.append_nil]; exact n25) (by rw [s_JL, esl, List.append_nil]; exact n26)
      simp only [g, vkt_v, vkt_n, vg_some, vgi_some, vgi_if, vps_some, vps_if, vcat_nil, vcat_i, vcat_r, vcat_l, vcl_n, vcl_i, vcl_r, vcl_l, Int.reduceToNat, Nat.reduceAdd, Nat.reduceLeDiff, true_and, and_true, true_or, or_true, Option.map_some, Int32.reduceToNatClampNeg, Int32.reduceLT, Int32.reduceLE, vq_1, vq_2, vq_3, vq_4, vq_5, vq_6, vq_7, vq_8, vq_9, vq_10, vq_11, vq_12, vq_13, vq_14, vq_15, vq_16, vq_17, vq_18, vq_19, vq_20, vq_m1, vq_00, Int32.reduceAdd, Int32.reduceSub, Int32.reduceMul, Nat.reduceLT, not_true_eq_false, not_false_eq_true, false_imp_iff, true_imp_iff, false_and, and_false, and_self]
      exact this
end V97b
