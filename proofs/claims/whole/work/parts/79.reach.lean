/-! Rule 4: the class reaches the entries. -/
theorem t_congr {L : Nat → Nat → Nat} {n c J : Nat} {R R' F F' : Nat → Prop} {par : Nat → Nat × Nat} (h : t_inv L n R F par c J) (hR : ∀ k, R k ↔ R' k) (hF : ∀ k, F k ↔ F' k) : t_inv L n R' F' par c J := by
  have e1 : R = R' := funext fun k => propext (hR k)
  have e2 : F = F' := funext fun k => propext (hF k)
  subst e1; subst e2
  exact h
/-- who owns an entry, what stands above it -/
def c_own (M' : Nat → Nat → Int32) (o : List Nat) (par : Nat → Nat × Nat) : Prop := M' 11 0 = -1 ∧ M' 14 0 = 0 ∧ ∀ k, k ∈ o → k ≠ 0 → ((par k).2 = 2 → M' 11 k = Int32.ofNat (par k).1 ∧ M' 14 k = 0) ∧ (¬ (par k).2 = 2 → M' 11 k = M' 11 (par k).1 ∧ M' 14 k = Int32.ofNat (par k).1)
/-- the class while it reaches: o the entries in order, i of them done, of c the links below J -/
def c_bfs (M M' : Nat → Nat → Int32) (L : Nat → Nat → Nat) (n : Nat) (o : List Nat) (par : Nat → Nat × Nat) (i c J : Nat) : Prop := vsame [4, 11, 12, 13, 14] M M' ∧ M' 4 12 = Int32.ofNat n ∧ n ≤ 12 ∧ o.Nodup ∧ (∀ x ∈ o, x < n) ∧ M' 4 2 = Int32.ofNat o.length ∧ (∀ (q : Nat) (h : q < o.length), M' 13 q = Int32.ofNat o[q]) ∧ (∀ q, q < 12 → M' 12 q = if q ∈ o then 1 else 0) ∧ c_own M' o par ∧ i ≤ o.length ∧ t_inv L n (fun k => k ∈ o) (fun k => k ∈ o.take i) par c J
section V79
variable {X : vi_Ex} {M M' : Nat → Nat → Int32} {post : Option Value → vi_Me → Prop} {L : Nat → Nat → Nat} {n i c J : Nat} {o : List Nat} {par : Nat → Nat × Nat}
def c_mark (M' : Nat → Nat → Int32) (k : Nat) (folder parent : Int32) (rc : Nat) : Nat → Nat → Int32 := vi_up (vi_up (vi_up (vi_up (vi_up M' 12 k 1) 11 k folder) 14 k parent) 13 rc (Int32.ofNat k)) 4 2 (Int32.ofNat (rc + 1))
theorem m34 {k rc : Nat} {folder parent : Int32} (hk : k < 12) (hrc : rc < 12) (hr : M' 4 2 = Int32.ofNat rc) : vo X 34 [.ref 4, .int (Int32.ofNat k), .int folder, .int parent] (v_sh, M') post ↔ post none (v_sh, c_mark M' k folder parent rc) := by
  simp only [vs34, vc34_0, vw_icm1, vw_ic0, vw_ic1, vw_ic2, vw_ic3, vw_ic4, vw_ic5, vw_bi, vw_si, vw_lc, vw_ldc, vw_ldc2, vw_il0, vw_iln0, vw_is0, vw_isn0, vw_il1, vw_iln1, vw_is1, vw_isn1, vw_il2, vw_iln2, vw_is2, vw_isn2, vw_il3, vw_iln3, vw_is3, vw_isn3, vw_il4, vw_is4, vw_il5, vw_is5, vw_il6, vw_is6, vw_il7, vw_is7, vw_al0, vw_aln0, vw_as0, vw_asn0, vw_al1, vw_aln1, vw_as1, vw_asn1, vw_al2, vw_aln2, vw_as2, vw_asn2, vw_al3, vw_aln3, vw_as3, vw_asn3, vw_al4, vw_as4, vw_al5, vw_as5, vw_al6, vw_as6, vw_al7, vw_as7, vw_ll0, vw_lln0, vw_ls0, vw_lsn0, vw_ll1, vw_lln1, vw_ls1, vw_lsn1, vw_ll2, vw_lln2, vw_ls2, vw_lsn2, vw_ll3, vw_lln3, vw_ls3, vw_lsn3, vw_ll4, vw_ls4, vw_ll5, vw_ls5, vw_ll6, vw_ls6, vw_ll7, vw_iinc0, vw_iinc1, vw_iinc2, vw_iinc3, vw_iinc4, vw_iinc5, vw_iinc6, vw_iinc7, vw_iadd, vw_isub, vw_imul, vw_iand, vw_ior, vw_ixor, vw_ishl, vw_ishr, vw_iushr, vw_idiv, vw_irem, vw_ladd, vw_lsub, vw_lmul, vw_ldiv, vw_lcmp, vw_i2l, vw_l2i, vw_dupi, vw_dupr, vw_goto, vw_ic_eq, vw_if_eq, vw_ic_ne, vw_if_ne, vw_ic_lt, vw_if_lt, vw_ic_ge, vw_if_ge, vw_ic_gt, vw_if_gt, vw_ic_le, vw_if_le, vw_gf, vw_pf, vw_iaload, vw_baload, vw_iastore, vw_bastore, vw_alen, vw_gs, vw_aaload, vw_iret, vw_zret, vw_lret, vw_aret, vw_vret, vw_st0, vw_iv0, vw_st1, vw_iv1, vw_st2, vw_iv2, vw_st3, vw_iv3, vw_st4, vw_iv4, vw_st5, vw_iv5, vkt_v, vkt_n, vg_some, vgi_some, vgi_if, vps_some, vps_if, vcat_nil, vcat_i, vcat_r, vcat_l, vcl_n, vcl_i, vcl_r, vcl_l, Int.reduceToNat, Nat.reduceAdd, Nat.reduceLeDiff, true_and, and_true, true_or, or_true, Option.map_some, Int32.reduceToNatClampNeg, Int32.reduceLT, Int32.reduceLE, vq_1, vq_2, vq_3, vq_4, vq_5, vq_6, vq_7, vq_8, vq_9, vq_10, vq_11, vq_12, vq_13, vq_14, vq_15, vq_16, vq_17, vq_18, vq_19, vq_20, vq_m1, vq_00, Int32.reduceAdd, Int32.reduceSub, Int32.reduceMul, Nat.reduceLT, not_true_eq_false, not_false_eq_true, false_imp_iff, true_imp_iff, false_and, and_false, and_self, vbi_m3, vbi_m2, vbi_6, vbi_7, vbi_8, vbi_9, vbi_10, vbi_11, vbi_12, vbi_13, vbi_14, vbi_15, vbi_16, vbi_17, vbi_18, vbi_19, vbi_20, vbi_21, vbi_24, vbi_31, vbi_32, vbi_33, vbi_47, vbi_48, vbi_96, vbi_97, vbi_122, vbi_126, vsi_128, vsi_129, vsi_192, vsi_200, vsi_255, vsi_256, vsi_338, vsi_339, vsi_352, vsi_353, vsi_376, vsi_400, vsi_402, vsi_710, vsi_732, vsi_4096, vsi_8211, vsi_8212, vsi_8216, vsi_8217, vsi_8218, vsi_8220, vsi_8221, vsi_8222, vsi_8224, vsi_8225, vsi_8226, vsi_8230, vsi_8240, vsi_8249, vsi_8250, vsi_8482, vsi_21552, vsi_21553, vld_m1073741825, vld_m1, vld_1, vld_6, vld_42476, vld_4476739, vld_218951966, vld_1073741824, vlj_2, vlj_3, vlj_7, vlj_8, vlj_256, vlj_1099511627776, vlc_0, vlc_1, vf4_0, vf4_1, vf4_2, vp4_2, vf4_3, vf4_4, vf4_5, vf4_6, vf4_7, vf4_8, vf4_9, vf4_10, vf4_11, vf4_12, vp4_12, vis4, val12, vas12, vle12, val11, vas11, vle11, val14, vas14, vle14, val13, vas13, vle13, v_in hk (by decide), v_ofx (show k < 2147483648 by omega), vu_ne, Nat.reduceEqDiff, hr, v_in hrc (by decide), v_ofx (show rc < 2147483648 by omega), v_inc, c_mark]
theorem m37 {k rc cnt : Nat} {folder parent : Int32} (hk : k < 256) (hc : M' 4 12 = Int32.ofNat cnt) (hcnt : cnt ≤ 12) (hrc : k < cnt → M' 12 k = 0 → rc < 12) (hr : M' 4 2 = Int32.ofNat rc) (hb : ∀ q, q < 12 → M' 12 q = 0 ∨ M' 12 q = 1) : vo X 37 [.ref 4, .int (Int32.ofNat k), .int folder, .int parent] (v_sh, M') post ↔ (k = 0 → post (some (.int 1)) (v_sh, M')) ∧ (¬ k = 0 → (cnt ≤ k ∨ M' 12 k = 1) → post (some (.int 0)) (v_sh, M')) ∧ (¬ k = 0 → k < cnt → M' 12 k = 0 → post (some (.int 1)) (v_sh, c_mark M' k folder parent rc)) := by
  have hz : (Int32.ofNat k = 0) ↔ k = 0 := v_ofeq (b := 0) (by omega) (by decide)
  by_cases h0 : k = 0
  · subst h0
    simp only [vs37, vc37_0, vw_icm1, vw_ic0, vw_ic1, vw_ic2, vw_ic3, vw_ic4, vw_ic5, vw_bi, vw_si, vw_lc, vw_ldc, vw_ldc2, vw_il0, vw_iln0, vw_is0, vw_isn0, vw_il1, vw_iln1, vw_is1, vw_isn1, vw_il2, vw_iln2, vw_is2, vw_isn2, vw_il3, vw_iln3, vw_is3, vw_isn3, vw_il4, vw_is4, vw_il5, vw_is5, vw_il6, vw_is6, vw_il7, vw_is7, vw_al0, vw_aln0, vw_as0, vw_asn0, vw_al1, vw_aln1, vw_as1, vw_asn1, vw_al2, vw_aln2, vw_as2, vw_asn2, vw_al3, vw_aln3, vw_as3, vw_asn3, vw_al4, vw_as4, vw_al5, vw_as5, vw_al6, vw_as6, vw_al7, vw_as7, vw_ll0, vw_lln0, vw_ls0, vw_lsn0, vw_ll1, vw_lln1, vw_ls1, vw_lsn1, vw_ll2, vw_lln2, vw_ls2, vw_lsn2, vw_ll3, vw_lln3, vw_ls3, vw_lsn3, vw_ll4, vw_ls4, vw_ll5, vw_ls5, vw_ll6, vw_ls6, vw_ll7, vw_iinc0, vw_iinc1, vw_iinc2, vw_iinc3, vw_iinc4, vw_iinc5, vw_iinc6, vw_iinc7, vw_iadd, vw_isub, vw_imul, vw_iand, vw_ior, vw_ixor, vw_ishl, vw_ishr, vw_iushr, vw_idiv, vw_irem, vw_ladd, vw_lsub, vw_lmul, vw_ldiv, vw_lcmp, vw_i2l, vw_l2i, vw_dupi, vw_dupr, vw_goto, vw_ic_eq, vw_if_eq, vw_ic_ne, vw_if_ne, vw_ic_lt, vw_if_lt, vw_ic_ge, vw_if_ge, vw_ic_gt, vw_if_gt, vw_ic_le, vw_if_le, vw_gf, vw_pf, vw_iaload, vw_baload, vw_iastore, vw_bastore, vw_alen, vw_gs, vw_aaload, vw_iret, vw_zret, vw_lret, vw_aret, vw_vret, vw_st0, vw_iv0, vw_st1, vw_iv1, vw_st2, vw_iv2, vw_st3, vw_iv3, vw_st4, vw_iv4, vw_st5, vw_iv5, vkt_v, vkt_n, vg_some, vgi_some, vgi_if, vps_some, vps_if, vcat_nil, vcat_i, vcat_r, vcat_l, vcl_n, vcl_i, vcl_r, vcl_l, Int.reduceToNat, Nat.reduceAdd, Nat.reduceLeDiff, true_and, and_true, true_or, or_true, Option.map_some, Int32.reduceToNatClampNeg, Int32.reduceLT, Int32.reduceLE, vq_1, vq_2, vq_3, vq_4, vq_5, vq_6, vq_7, vq_8, vq_9, vq_10, vq_11, vq_12, vq_13, vq_14, vq_15, vq_16, vq_17, vq_18, vq_19, vq_20, vq_m1, vq_00, Int32.reduceAdd, Int32.reduceSub, Int32.reduceMul, Nat.reduceLT, not_true_eq_false, not_false_eq_true, false_imp_iff, true_imp_iff, false_and, and_false, and_self, vbi_m3, vbi_m2, vbi_6, vbi_7, vbi_8, vbi_9, vbi_10, vbi_11, vbi_12, vbi_13, vbi_14, vbi_15, vbi_16, vbi_17, vbi_18, vbi_19, vbi_20, vbi_21, vbi_24, vbi_31, vbi_32, vbi_33, vbi_47, vbi_48, vbi_96, vbi_97, vbi_122, vbi_126, vsi_128, vsi_129, vsi_192, vsi_200, vsi_255, vsi_256, vsi_338, vsi_339, vsi_352, vsi_353, vsi_376, vsi_400, vsi_402, vsi_710, vsi_732, vsi_4096, vsi_8211, vsi_8212, vsi_8216, vsi_8217, vsi_8218, vsi_8220, vsi_8221, vsi_8222, vsi_8224, vsi_8225, vsi_8226, vsi_8230, vsi_8240, vsi_8249, vsi_8250, vsi_8482, vsi_21552, vsi_21553, vld_m1073741825, vld_m1, vld_1, vld_6, vld_42476, vld_4476739, vld_218951966, vld_1073741824, vlj_2, vlj_3, vlj_7, vlj_8, vlj_256, vlj_1099511627776, vlc_0, vlc_1, show Int32.ofNat 0 = 0 from rfl]
  · by_cases hlt : k < cnt
    · by_cases hm : M' 12 k = 0
      · simp only [vs37, vc37_0, vb37_6, vc37_6, vb37_25, vc37_25, vw_icm1, vw_ic0, vw_ic1, vw_ic2, vw_ic3, vw_ic4, vw_ic5, vw_bi, vw_si, vw_lc, vw_ldc, vw_ldc2, vw_il0, vw_iln0, vw_is0, vw_isn0, vw_il1, vw_iln1, vw_is1, vw_isn1, vw_il2, vw_iln2, vw_is2, vw_isn2, vw_il3, vw_iln3, vw_is3, vw_isn3, vw_il4, vw_is4, vw_il5, vw_is5, vw_il6, vw_is6, vw_il7, vw_is7, vw_al0, vw_aln0, vw_as0, vw_asn0, vw_al1, vw_aln1, vw_as1, vw_asn1, vw_al2, vw_aln2, vw_as2, vw_asn2, vw_al3, vw_aln3, vw_as3, vw_asn3, vw_al4, vw_as4, vw_al5, vw_as5, vw_al6, vw_as6, vw_al7, vw_as7, vw_ll0, vw_lln0, vw_ls0, vw_lsn0, vw_ll1, vw_lln1, vw_ls1, vw_lsn1, vw_ll2, vw_lln2, vw_ls2, vw_lsn2, vw_ll3, vw_lln3, vw_ls3, vw_lsn3, vw_ll4, vw_ls4, vw_ll5, vw_ls5, vw_ll6, vw_ls6, vw_ll7, vw_iinc0, vw_iinc1, vw_iinc2, vw_iinc3, vw_iinc4, vw_iinc5, vw_iinc6, vw_iinc7, vw_iadd, vw_isub, vw_imul, vw_iand, vw_ior, vw_ixor, vw_ishl, vw_ishr, vw_iushr, vw_idiv, vw_irem, vw_ladd, vw_lsub, vw_lmul, vw_ldiv, vw_lcmp, vw_i2l, vw_l2i, vw_dupi, vw_dupr, vw_goto, vw_ic_eq, vw_if_eq, vw_ic_ne, vw_if_ne, vw_ic_lt, vw_if_lt, vw_ic_ge, vw_if_ge, vw_ic_gt, vw_if_gt, vw_ic_le, vw_if_le, vw_gf, vw_pf, vw_iaload, vw_baload, vw_iastore, vw_bastore, vw_alen, vw_gs, vw_aaload, vw_iret, vw_zret, vw_lret, vw_aret, vw_vret, vw_st0, vw_iv0, vw_st1, vw_iv1, vw_st2, vw_iv2, vw_st3, vw_iv3, vw_st4, vw_iv4, vw_st5, vw_iv5, vkt_v, vkt_n, vg_some, vgi_some, vgi_if, vps_some, vps_if, vcat_nil, vcat_i, vcat_r, vcat_l, vcl_n, vcl_i, vcl_r, vcl_l, Int.reduceToNat, Nat.reduceAdd, Nat.reduceLeDiff, true_and, and_true, true_or, or_true, Option.map_some, Int32.reduceToNatClampNeg, Int32.reduceLT, Int32.reduceLE, vq_1, vq_2, vq_3, vq_4, vq_5, vq_6, vq_7, vq_8, vq_9, vq_10, vq_11, vq_12, vq_13, vq_14, vq_15, vq_16, vq_17, vq_18, vq_19, vq_20, vq_m1, vq_00, Int32.reduceAdd, Int32.reduceSub, Int32.reduceMul, Nat.reduceLT, not_true_eq_false, not_false_eq_true, false_imp_iff, true_imp_iff, false_and, and_false, and_self, vbi_m3, vbi_m2, vbi_6, vbi_7, vbi_8, vbi_9, vbi_10, vbi_11, vbi_12, vbi_13, vbi_14, vbi_15, vbi_16, vbi_17, vbi_18, vbi_19, vbi_20, vbi_21, vbi_24, vbi_31, vbi_32, vbi_33, vbi_47, vbi_48, vbi_96, vbi_97, vbi_122, vbi_126, vsi_128, vsi_129, vsi_192, vsi_200, vsi_255, vsi_256, vsi_338, vsi_339, vsi_352, vsi_353, vsi_376, vsi_400, vsi_402, vsi_710, vsi_732, vsi_4096, vsi_8211, vsi_8212, vsi_8216, vsi_8217, vsi_8218, vsi_8220, vsi_8221, vsi_8222, vsi_8224, vsi_8225, vsi_8226, vsi_8230, vsi_8240, vsi_8249, vsi_8250, vsi_8482, vsi_21552, vsi_21553, vld_m1073741825, vld_m1, vld_1, vld_6, vld_42476, vld_4476739, vld_218951966, vld_1073741824, vlj_2, vlj_3, vlj_7, vlj_8, vlj_256, vlj_1099511627776, vlc_0, vlc_1, vf4_0, vf4_1, vf4_2, vp4_2, vf4_3, vf4_4, vf4_5, vf4_6, vf4_7, vf4_8, vf4_9, vf4_10, vf4_11, vf4_12, vp4_12, vis4, val12, vas12, vle12, hz, h0, hc, v_oflt (show k < 2147483648 by omega) (show cnt < 2147483648 by omega), v_ofle (show cnt < 2147483648 by omega) (show k < 2147483648 by omega), hlt, show ¬ cnt ≤ k by omega, v_in (show k < 12 by omega) (by decide), v_ofx (show k < 2147483648 by omega), hm, m34 (show k < 12 by omega) (hrc hlt hm) hr]
        simp
      · have h1 : M' 12 k = 1 := (hb k (by omega)).resolve_left hm
        simp only [vs37, vc37_0, vb37_6, vc37_6, vb37_23, vc37_23, vw_icm1, vw_ic0, vw_ic1, vw_ic2, vw_ic3, vw_ic4, vw_ic5, vw_bi, vw_si, vw_lc, vw_ldc, vw_ldc2, vw_il0, vw_iln0, vw_is0, vw_isn0, vw_il1, vw_iln1, vw_is1, vw_isn1, vw_il2, vw_iln2, vw_is2, vw_isn2, vw_il3, vw_iln3, vw_is3, vw_isn3, vw_il4, vw_is4, vw_il5, vw_is5, vw_il6, vw_is6, vw_il7, vw_is7, vw_al0, vw_aln0, vw_as0, vw_asn0, vw_al1, vw_aln1, vw_as1, vw_asn1, vw_al2, vw_aln2, vw_as2, vw_asn2, vw_al3, vw_aln3, vw_as3, vw_asn3, vw_al4, vw_as4, vw_al5, vw_as5, vw_al6, vw_as6, vw_al7, vw_as7, vw_ll0, vw_lln0, vw_ls0, vw_lsn0, vw_ll1, vw_lln1, vw_ls1, vw_lsn1, vw_ll2, vw_lln2, vw_ls2, vw_lsn2, vw_ll3, vw_lln3, vw_ls3, vw_lsn3, vw_ll4, vw_ls4, vw_ll5, vw_ls5, vw_ll6, vw_ls6, vw_ll7, vw_iinc0, vw_iinc1, vw_iinc2, vw_iinc3, vw_iinc4, vw_iinc5, vw_iinc6, vw_iinc7, vw_iadd, vw_isub, vw_imul, vw_iand, vw_ior, vw_ixor, vw_ishl, vw_ishr, vw_iushr, vw_idiv, vw_irem, vw_ladd, vw_lsub, vw_lmul, vw_ldiv, vw_lcmp, vw_i2l, vw_l2i, vw_dupi, vw_dupr, vw_goto, vw_ic_eq, vw_if_eq, vw_ic_ne, vw_if_ne, vw_ic_lt, vw_if_lt, vw_ic_ge, vw_if_ge, vw_ic_gt, vw_if_gt, vw_ic_le, vw_if_le, vw_gf, vw_pf, vw_iaload, vw_baload, vw_iastore, vw_bastore, vw_alen, vw_gs, vw_aaload, vw_iret, vw_zret, vw_lret, vw_aret, vw_vret, vw_st0, vw_iv0, vw_st1, vw_iv1, vw_st2, vw_iv2, vw_st3, vw_iv3, vw_st4, vw_iv4, vw_st5, vw_iv5, vkt_v, vkt_n, vg_some, vgi_some, vgi_if, vps_some, vps_if, vcat_nil, vcat_i, vcat_r, vcat_l, vcl_n, vcl_i, vcl_r, vcl_l, Int.reduceToNat, Nat.reduceAdd, Nat.reduceLeDiff, true_and, and_true, true_or, or_true, Option.map_some, Int32.reduceToNatClampNeg, Int32.reduceLT, Int32.reduceLE, vq_1, vq_2, vq_3, vq_4, vq_5, vq_6, vq_7, vq_8, vq_9, vq_10, vq_11, vq_12, vq_13, vq_14, vq_15, vq_16, vq_17, vq_18, vq_19, vq_20, vq_m1, vq_00, Int32.reduceAdd, Int32.reduceSub, Int32.reduceMul, Nat.reduceLT, not_true_eq_false, not_false_eq_true, false_imp_iff, true_imp_iff, false_and, and_false, and_self, vbi_m3, vbi_m2, vbi_6, vbi_7, vbi_8, vbi_9, vbi_10, vbi_11, vbi_12, vbi_13, vbi_14, vbi_15, vbi_16, vbi_17, vbi_18, vbi_19, vbi_20, vbi_21, vbi_24, vbi_31, vbi_32, vbi_33, vbi_47, vbi_48, vbi_96, vbi_97, vbi_122, vbi_126, vsi_128, vsi_129, vsi_192, vsi_200, vsi_255, vsi_256, vsi_338, vsi_339, vsi_352, vsi_353, vsi_376, vsi_400, vsi_402, vsi_710, vsi_732, vsi_4096, vsi_8211, vsi_8212, vsi_8216, vsi_8217, vsi_8218, vsi_8220, vsi_8221, vsi_8222, vsi_8224, vsi_8225, vsi_8226, vsi_8230, vsi_8240, vsi_8249, vsi_8250, vsi_8482, vsi_21552, vsi_21553, vld_m1073741825, vld_m1, vld_1, vld_6, vld_42476, vld_4476739, vld_218951966, vld_1073741824, vlj_2, vlj_3, vlj_7, vlj_8, vlj_256, vlj_1099511627776, vlc_0, vlc_1, vf4_0, vf4_1, vf4_2, vp4_2, vf4_3, vf4_4, vf4_5, vf4_6, vf4_7, vf4_8, vf4_9, vf4_10, vf4_11, vf4_12, vp4_12, vis4, val12, vas12, vle12, hz, h0, hc, v_oflt (show k < 2147483648 by omega) (show cnt < 2147483648 by omega), v_ofle (show cnt < 2147483648 by omega) (show k < 2147483648 by omega), hlt, show ¬ cnt ≤ k by omega, v_in (show k < 12 by omega) (by decide), v_ofx (show k < 2147483648 by omega), h1]
    · simp only [vs37, vc37_0, vb37_6, vc37_6, vb37_23, vc37_23, vw_icm1, vw_ic0, vw_ic1, vw_ic2, vw_ic3, vw_ic4, vw_ic5, vw_bi, vw_si, vw_lc, vw_ldc, vw_ldc2, vw_il0, vw_iln0, vw_is0, vw_isn0, vw_il1, vw_iln1, vw_is1, vw_isn1, vw_il2, vw_iln2, vw_is2, vw_isn2, vw_il3, vw_iln3, vw_is3, vw_isn3, vw_il4, vw_is4, vw_il5, vw_is5, vw_il6, vw_is6, vw_il7, vw_is7, vw_al0, vw_aln0, vw_as0, vw_asn0, vw_al1, vw_aln1, vw_as1, vw_asn1, vw_al2, vw_aln2, vw_as2, vw_asn2, vw_al3, vw_aln3, vw_as3, vw_asn3, vw_al4, vw_as4, vw_al5, vw_as5, vw_al6, vw_as6, vw_al7, vw_as7, vw_ll0, vw_lln0, vw_ls0, vw_lsn0, vw_ll1, vw_lln1, vw_ls1, vw_lsn1, vw_ll2, vw_lln2, vw_ls2, vw_lsn2, vw_ll3, vw_lln3, vw_ls3, vw_lsn3, vw_ll4, vw_ls4, vw_ll5, vw_ls5, vw_ll6, vw_ls6, vw_ll7, vw_iinc0, vw_iinc1, vw_iinc2, vw_iinc3, vw_iinc4, vw_iinc5, vw_iinc6, vw_iinc7, vw_iadd, vw_isub, vw_imul, vw_iand, vw_ior, vw_ixor, vw_ishl, vw_ishr, vw_iushr, vw_idiv, vw_irem, vw_ladd, vw_lsub, vw_lmul, vw_ldiv, vw_lcmp, vw_i2l, vw_l2i, vw_dupi, vw_dupr, vw_goto, vw_ic_eq, vw_if_eq, vw_ic_ne, vw_if_ne, vw_ic_lt, vw_if_lt, vw_ic_ge, vw_if_ge, vw_ic_gt, vw_if_gt, vw_ic_le, vw_if_le, vw_gf, vw_pf, vw_iaload, vw_baload, vw_iastore, vw_bastore, vw_alen, vw_gs, vw_aaload, vw_iret, vw_zret, vw_lret, vw_aret, vw_vret, vw_st0, vw_iv0, vw_st1, vw_iv1, vw_st2, vw_iv2, vw_st3, vw_iv3, vw_st4, vw_iv4, vw_st5, vw_iv5, vkt_v, vkt_n, vg_some, vgi_some, vgi_if, vps_some, vps_if, vcat_nil, vcat_i, vcat_r, vcat_l, vcl_n, vcl_i, vcl_r, vcl_l, Int.reduceToNat, Nat.reduceAdd, Nat.reduceLeDiff, true_and, and_true, true_or, or_true, Option.map_some, Int32.reduceToNatClampNeg, Int32.reduceLT, Int32.reduceLE, vq_1, vq_2, vq_3, vq_4, vq_5, vq_6, vq_7, vq_8, vq_9, vq_10, vq_11, vq_12, vq_13, vq_14, vq_15, vq_16, vq_17, vq_18, vq_19, vq_20, vq_m1, vq_00, Int32.reduceAdd, Int32.reduceSub, Int32.reduceMul, Nat.reduceLT, not_true_eq_false, not_false_eq_true, false_imp_iff, true_imp_iff, false_and, and_false, and_self, vbi_m3, vbi_m2, vbi_6, vbi_7, vbi_8, vbi_9, vbi_10, vbi_11, vbi_12, vbi_13, vbi_14, vbi_15, vbi_16, vbi_17, vbi_18, vbi_19, vbi_20, vbi_21, vbi_24, vbi_31, vbi_32, vbi_33, vbi_47, vbi_48, vbi_96, vbi_97, vbi_122, vbi_126, vsi_128, vsi_129, vsi_192, vsi_200, vsi_255, vsi_256, vsi_338, vsi_339, vsi_352, vsi_353, vsi_376, vsi_400, vsi_402, vsi_710, vsi_732, vsi_4096, vsi_8211, vsi_8212, vsi_8216, vsi_8217, vsi_8218, vsi_8220, vsi_8221, vsi_8222, vsi_8224, vsi_8225, vsi_8226, vsi_8230, vsi_8240, vsi_8249, vsi_8250, vsi_8482, vsi_21552, vsi_21553, vld_m1073741825, vld_m1, vld_1, vld_6, vld_42476, vld_4476739, vld_218951966, vld_1073741824, vlj_2, vlj_3, vlj_7, vlj_8, vlj_256, vlj_1099511627776, vlc_0, vlc_1, vf4_0, vf4_1, vf4_2, vp4_2, vf4_3, vf4_4, vf4_5, vf4_6, vf4_7, vf4_8, vf4_9, vf4_10, vf4_11, vf4_12, vp4_12, vis4, val12, vas12, vle12, hz, h0, hc, v_oflt (show k < 2147483648 by omega) (show cnt < 2147483648 by omega), v_ofle (show cnt < 2147483648 by omega) (show k < 2147483648 by omega), hlt, show cnt ≤ k by omega]
/-- one link is tried -/
theorem c_try (h : c_bfs M M' L n o par i c J) (hL : ∀ a j, L a j < 256) (hc : c ∈ o) (hci : c ∉ o.take i) (hJ : J < 3) (hcJ : c = 0 → J = 2) {folder parent : Int32} (hfo : (J = 2 → folder = Int32.ofNat c ∧ parent = 0) ∧ (¬ J = 2 → folder = M' 11 c ∧ parent = Int32.ofNat c))
    (hgo : ∀ M'' o' par', c_bfs M M'' L n o' par' i c (J + 1) → (∃ r, o' = o ++ r) → M'' 11 c = M' 11 c → post (some (.int 1)) (v_sh, M''))
    (hno : ¬ t_ok L n → vsame [4, 11, 12, 13, 14] M M' → post (some (.int 0)) (v_sh, M')) : vo X 37 [.ref 4, .int (Int32.ofNat (L c J)), .int folder, .int parent] (v_sh, M') post := by
  have hall := h
  obtain ⟨b1, b2, b3, b4, b5, b6, b7, b8, b9, b10, b11⟩ := h
  have hlen : o.length ≤ n := v_pig n o b4 b5
  have hrc : ∀ k, k < n → M' 12 k = 0 → o.length < 12 := by
    intro k hk hz
    have hk2 : k ∉ o := by
      intro hm
      rw [b8 k (by omega), if_pos hm] at hz
      exact absurd hz (by decide)
    have := v_pig n (o ++ [k]) (by
      rw [List.nodup_append]
      refine ⟨b4, by simp, fun a ha b hb => ?_⟩
      rw [List.mem_singleton.mp hb]
      exact fun e => hk2 (e ▸ ha)) (fun x hx => by
      rcases List.mem_append.mp hx with q | q
      · exact b5 x q
      · rw [List.mem_singleton.mp q]; exact hk)
    simp at this
    omega
  rw [m37 (hL c J) b2 b3 (fun h1 h2 => hrc _ h1 h2) b6 (fun q hq => by rw [b8 q hq]; by_cases e : q ∈ o <;> simp [e])]
  refine ⟨fun h0 => ?_, fun h0 hb => ?_, fun h0 hlt hz => ?_⟩
  · refine hgo M' o par ⟨b1, b2, b3, b4, b5, b6, b7, b8, b9, b10, t_skip b11 (fun he => ?_)⟩ ⟨[], by simp⟩ rfl
    have := he.2.2
    omega
  · have he : t_edge L c J := ⟨hJ, hcJ, by omega⟩
    refine hno (t_fail b11 hc hci he ?_) b1
    rcases hb with hb | hb
    · exact Or.inl hb
    · by_cases hn : n ≤ L c J
      · exact Or.inl hn
      · right
        rw [b8 _ (by omega)] at hb
        by_cases hm : L c J ∈ o
        · exact hm
        · rw [if_neg hm] at hb
          exact absurd hb (by decide)
  · have he : t_edge L c J := ⟨hJ, hcJ, by omega⟩
    have hno2 : L c J ∉ o := by
      intro hm
      rw [b8 _ (by omega), if_pos hm] at hz
      exact absurd hz (by decide)
    have hl12 : o.length < 12 := hrc _ hlt hz
    have hcne : c ≠ L c J := fun e => hno2 (e ▸ hc)
    have e11 : ∀ k, k ≠ L c J → (c_mark M' (L c J) folder parent o.length) 11 k = M' 11 k := by
      intro k hk
      simp [c_mark, vu_ne, vu_eq, upd_ne hk]
    have e14 : ∀ k, k ≠ L c J → (c_mark M' (L c J) folder parent o.length) 14 k = M' 14 k := by
      intro k hk
      simp [c_mark, vu_ne, vu_eq, upd_ne hk]
    refine hgo _ (o ++ [L c J]) (fun k => if k = L c J then (c, J) else par k) ⟨?_, ?_, b3, ?_, ?_, ?_, ?_, ?_, ?_, ?_, ?_⟩ ⟨_, rfl⟩ (e11 c hcne)
    · exact ((((b1.up (by decide)).up (by decide)).up (by decide)).up (by decide)).up (by decide)
    · simp [c_mark, vu_ne, vu_eq, upd_ne, b2]
    · rw [List.nodup_append]
      refine ⟨b4, by simp, fun a ha b hb => ?_⟩
      rw [List.mem_singleton.mp hb]
      exact fun e => hno2 (e ▸ ha)
    · intro x hx
      rcases List.mem_append.mp hx with q | q
      · exact b5 x q
      · rw [List.mem_singleton.mp q]; exact hlt
    · rw [List.length_append, List.length_singleton]
      unfold c_mark
      rw [vu_eq, upd_eq]
    · intro q hq
      by_cases e : q = o.length
      · subst e
        unfold c_mark
        rw [vu_ne (by decide), vu_eq, upd_eq]
        simp
      · have hq2 : q < o.length := by simp at hq; omega
        unfold c_mark
        rw [vu_ne (by decide), vu_eq, upd_ne e, vu_ne (by decide), vu_ne (by decide), vu_ne (by decide), b7 q hq2, List.getElem_append_left hq2]
    · intro q hq
      unfold c_mark
      rw [vu_ne (by decide), vu_ne (by decide), vu_ne (by decide), vu_ne (by decide), vu_eq]
      by_cases e : q = L c J
      · subst e
        rw [upd_eq]
        simp
      · rw [upd_ne e, b8 q hq]
        simp [e]
    · obtain ⟨g1, g2, g3⟩ := b9
      have h00 : (0 : Nat) ≠ L c J := fun e => h0 e.symm
      refine ⟨by rw [e11 0 h00]; exact g1, by rw [e14 0 h00]; exact g2, fun k hk hk0 => ?_⟩
      by_cases e : k = L c J
      · subst e
        dsimp only
        rw [if_pos rfl]
        dsimp only
        have a1 : (c_mark M' (L c J) folder parent o.length) 11 (L c J) = folder := by
          unfold c_mark
          rw [vu_ne (by decide), vu_ne (by decide), vu_ne (by decide), vu_eq, upd_eq]
        have a2 : (c_mark M' (L c J) folder parent o.length) 14 (L c J) = parent := by
          unfold c_mark
          rw [vu_ne (by decide), vu_ne (by decide), vu_eq, upd_eq]
        rw [a1, a2, e11 c hcne]
        exact hfo
      · have hko : k ∈ o := by
          rcases List.mem_append.mp hk with q | q
          · exact q
          · exact absurd (List.mem_singleton.mp q) e
        dsimp only
        rw [if_neg e, e11 k e, e14 k e]
        have hp := b11.2.2.2.1 k hko hk0
        have hpo : (par k).1 ∈ o := by
          rcases hp.1 with q | q
          · exact List.mem_of_mem_take q
          · rw [q.1]; exact hc
        rw [e11 (par k).1 (fun e2 => hno2 (e2 ▸ hpo))]
        exact g3 k hko hk0
    · simp; omega
    · refine t_congr (t_mark b11 hc he hlt hno2) (fun k => ?_) (fun k => ?_)
      · simp
      · rw [List.take_append_of_le_length b10]
end V79
