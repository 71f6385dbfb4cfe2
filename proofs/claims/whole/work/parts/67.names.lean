/-! Names: letters, proper names, their order; both sides. -/
theorem vby_n (x : Int32) : vby x 0 = x.toBitVec.toNat % 256 ∧ vby x 1 = x.toBitVec.toNat / 256 % 256 ∧ vby x 2 = x.toBitVec.toNat / 65536 % 256 ∧ vby x 3 = x.toBitVec.toNat / 16777216 % 256 := by
  refine ⟨?_, ?_, ?_, ?_⟩ <;> simp [vby, Nat.shiftRight_eq_div_pow]
theorem vby_int (x : Int32) (i : Nat) : (Int32.ofNat (vby x i)).toInt = (vby x i : Int) := Int32.toInt_ofNat_of_lt (by have := vby_lt x i; omega)
theorem v_n32 (x : Int32) : x.toBitVec.toNat < 4294967296 := x.toBitVec.isLt
theorem v_ush {x : Int32} {k : Nat} : (Int32.ofBitVec (x.toBitVec >>> k) = 0) ↔ x.toBitVec.toNat / 2 ^ k = 0 := by
  rw [← Int32.toBitVec_inj, ← BitVec.toNat_inj]
  show (x.toBitVec >>> k).toNat = 0 ↔ _
  rw [BitVec.toNat_ushiftRight, Nat.shiftRight_eq_div_pow]
/-- how many letters: up to the last byte that isn't 0 -/
def vlet (x : Int32) : Nat := if vby x 3 = 0 then (if vby x 2 = 0 then (if vby x 1 = 0 then (if vby x 0 = 0 then 0 else 1) else 2) else 3) else 4
section V67
variable {X : vi_Ex} {S : vi_Me} {post : Option Value → vi_Me → Prop}
theorem m165 {x : Int32} : vo X 165 [.int x] S post ↔ post (some (.int (Int32.ofNat (vlet x)))) S := by
  simp only [vs165, vc165_0, vb165_11, vc165_11, vb165_22, vc165_22, vb165_33, vc165_33, vb165_41, vc165_41, vb165_42, vc165_42, vw_icm1, vw_ic0, vw_ic1, vw_ic2, vw_ic3, vw_ic4, vw_ic5, vw_bi, vw_si, vw_lc, vw_ldc, vw_ldc2, vw_il0, vw_iln0, vw_is0, vw_isn0, vw_il1, vw_iln1, vw_is1, vw_isn1, vw_il2, vw_iln2, vw_is2, vw_isn2, vw_il3, vw_iln3, vw_is3, vw_isn3, vw_il4, vw_is4, vw_il5, vw_is5, vw_il6, vw_is6, vw_il7, vw_is7, vw_al0, vw_aln0, vw_as0, vw_asn0, vw_al1, vw_aln1, vw_as1, vw_asn1, vw_al2, vw_aln2, vw_as2, vw_asn2, vw_al3, vw_aln3, vw_as3, vw_asn3, vw_al4, vw_as4, vw_al5, vw_as5, vw_al6, vw_as6, vw_al7, vw_as7, vw_ll0, vw_lln0, vw_ls0, vw_lsn0, vw_ll1, vw_lln1, vw_ls1, vw_lsn1, vw_ll2, vw_lln2, vw_ls2, vw_lsn2, vw_ll3, vw_lln3, vw_ls3, vw_lsn3, vw_ll4, vw_ls4, vw_ll5, vw_ls5, vw_ll6, vw_ls6, vw_ll7, vw_iinc0, vw_iinc1, vw_iinc2, vw_iinc3, vw_iinc4, vw_iinc5, vw_iinc6, vw_iinc7, vw_iadd, vw_isub, vw_imul, vw_iand, vw_ior, vw_ixor, vw_ishl, vw_ishr, vw_iushr, vw_idiv, vw_irem, vw_ladd, vw_lsub, vw_lmul, vw_ldiv, vw_lcmp, vw_i2l, vw_l2i, vw_dupi, vw_dupr, vw_goto, vw_ic_eq, vw_if_eq, vw_ic_ne, vw_if_ne, vw_ic_lt, vw_if_lt, vw_ic_ge, vw_if_ge, vw_ic_gt, vw_if_gt, vw_ic_le, vw_if_le, vw_gf, vw_pf, vw_iaload, vw_baload, vw_iastore, vw_bastore, vw_alen, vw_gs, vw_aaload, vw_iret, vw_zret, vw_lret, vw_aret, vw_vret, vw_st0, vw_iv0, vw_st1, vw_iv1, vw_st2, vw_iv2, vw_st3, vw_iv3, vw_st4, vw_iv4, vw_st5, vw_iv5, vkt_v, vkt_n, vg_some, vgi_some, vgi_if, vps_some, vps_if, vcat_nil, vcat_i, vcat_r, vcat_l, vcl_n, vcl_i, vcl_r, vcl_l, Int.reduceToNat, Nat.reduceAdd, Nat.reduceLeDiff, true_and, and_true, true_or, or_true, Option.map_some, Int32.reduceToNatClampNeg, Int32.reduceLT, Int32.reduceLE, vq_1, vq_2, vq_3, vq_4, vq_5, vq_6, vq_7, vq_8, vq_9, vq_10, vq_11, vq_12, vq_13, vq_14, vq_15, vq_16, vq_17, vq_18, vq_19, vq_20, vq_m1, vq_00, Int32.reduceAdd, Int32.reduceSub, Int32.reduceMul, Nat.reduceLT, not_true_eq_false, not_false_eq_true, false_imp_iff, true_imp_iff, false_and, and_false, and_self, vbi_m3, vbi_m2, vbi_6, vbi_7, vbi_8, vbi_9, vbi_10, vbi_11, vbi_12, vbi_13, vbi_14, vbi_15, vbi_16, vbi_17, vbi_18, vbi_19, vbi_20, vbi_21, vbi_24, vbi_31, vbi_32, vbi_33, vbi_47, vbi_48, vbi_96, vbi_97, vbi_122, vbi_126, vsi_128, vsi_129, vsi_192, vsi_200, vsi_255, vsi_256, vsi_338, vsi_339, vsi_352, vsi_353, vsi_376, vsi_400, vsi_402, vsi_710, vsi_732, vsi_4096, vsi_8211, vsi_8212, vsi_8216, vsi_8217, vsi_8218, vsi_8220, vsi_8221, vsi_8222, vsi_8224, vsi_8225, vsi_8226, vsi_8230, vsi_8240, vsi_8249, vsi_8250, vsi_8482, vsi_21552, vsi_21553, vld_m1073741825, vld_m1, vld_1, vld_6, vld_42476, vld_4476739, vld_218951966, vld_1073741824, vlj_2, vlj_3, vlj_7, vlj_8, vlj_256, vlj_1099511627776, vlc_0, vlc_1]
  obtain ⟨e0, e1, e2, e3⟩ := vby_n x
  have hn := v_n32 x
  have h24 : ((x.toUInt32 >>> (Int32.toUInt32 24 &&& Int32.toUInt32 31)).toInt32 = 0) ↔ vby x 3 = 0 := by
    refine (v_ush (x := x) (k := 24)).trans ?_
    omega
  have h16 : ((x.toUInt32 >>> (Int32.toUInt32 16 &&& Int32.toUInt32 31)).toInt32 = 0) ↔ vby x 3 = 0 ∧ vby x 2 = 0 := by
    refine (v_ush (x := x) (k := 16)).trans ?_
    omega
  have h8 : ((x.toUInt32 >>> (Int32.toUInt32 8 &&& Int32.toUInt32 31)).toInt32 = 0) ↔ vby x 3 = 0 ∧ vby x 2 = 0 ∧ vby x 1 = 0 := by
    refine (v_ush (x := x) (k := 8)).trans ?_
    omega
  have h0 : (x = 0) ↔ vby x 3 = 0 ∧ vby x 2 = 0 ∧ vby x 1 = 0 ∧ vby x 0 = 0 := by
    rw [← Int32.toBitVec_inj, ← BitVec.toNat_inj]
    show x.toBitVec.toNat = 0 ↔ _
    omega
  simp only [h24, h16, h8, h0, vlet]
  by_cases b3 : vby x 3 = 0
  · by_cases b2 : vby x 2 = 0
    · by_cases b1 : vby x 1 = 0
      · by_cases b0 : vby x 0 = 0
        · simp [b3, b2, b1, b0]
        · simp [b3, b2, b1, b0]
      · simp [b3, b2, b1]
    · simp [b3, b2]
  · simp [b3]
theorem v_b255 {x : Int32} {i : Nat} : (Int32.ofNat (vby x i) = 0) ↔ vby x i = 0 := by
  rw [vz_eq, vby_int]
  simp only [Int32.reduceToInt]
  omega
theorem l43 {x l : Int32} {i : Nat} (hi : i < 4) : vw X 43 vc43_4 [some (.int x), some (.int l), some (.int (Int32.ofNat i))] [] S post ↔ vw X 43 (v_B 43 4) [some (.int x), some (.int (if vby x i = 0 then l else Int32.ofNat (i + 1))), some (.int (Int32.ofNat (i + 1)))] [] S post := by
  have h4 : Int32.ofNat i < 4 := by
    rw [vz_lt, Int32.toInt_ofNat_of_lt (by omega)]
    simp only [Int32.reduceToInt]
    omega
  have e1 : Int32.ofNat i + 1 = Int32.ofNat (i + 1) := (Int32.ofNat_add i 1).symm
  simp only [vc43_4, vb43_26, vc43_26, vw_icm1, vw_ic0, vw_ic1, vw_ic2, vw_ic3, vw_ic4, vw_ic5, vw_bi, vw_si, vw_lc, vw_ldc, vw_ldc2, vw_il0, vw_iln0, vw_is0, vw_isn0, vw_il1, vw_iln1, vw_is1, vw_isn1, vw_il2, vw_iln2, vw_is2, vw_isn2, vw_il3, vw_iln3, vw_is3, vw_isn3, vw_il4, vw_is4, vw_il5, vw_is5, vw_il6, vw_is6, vw_il7, vw_is7, vw_al0, vw_aln0, vw_as0, vw_asn0, vw_al1, vw_aln1, vw_as1, vw_asn1, vw_al2, vw_aln2, vw_as2, vw_asn2, vw_al3, vw_aln3, vw_as3, vw_asn3, vw_al4, vw_as4, vw_al5, vw_as5, vw_al6, vw_as6, vw_al7, vw_as7, vw_ll0, vw_lln0, vw_ls0, vw_lsn0, vw_ll1, vw_lln1, vw_ls1, vw_lsn1, vw_ll2, vw_lln2, vw_ls2, vw_lsn2, vw_ll3, vw_lln3, vw_ls3, vw_lsn3, vw_ll4, vw_ls4, vw_ll5, vw_ls5, vw_ll6, vw_ls6, vw_ll7, vw_iinc0, vw_iinc1, vw_iinc2, vw_iinc3, vw_iinc4, vw_iinc5, vw_iinc6, vw_iinc7, vw_iadd, vw_isub, vw_imul, vw_iand, vw_ior, vw_ixor, vw_ishl, vw_ishr, vw_iushr, vw_idiv, vw_irem, vw_ladd, vw_lsub, vw_lmul, vw_ldiv, vw_lcmp, vw_i2l, vw_l2i, vw_dupi, vw_dupr, vw_goto, vw_ic_eq, vw_if_eq, vw_ic_ne, vw_if_ne, vw_ic_lt, vw_if_lt, vw_ic_ge, vw_if_ge, vw_ic_gt, vw_if_gt, vw_ic_le, vw_if_le, vw_gf, vw_pf, vw_iaload, vw_baload, vw_iastore, vw_bastore, vw_alen, vw_gs, vw_aaload, vw_iret, vw_zret, vw_lret, vw_aret, vw_vret, vw_st0, vw_iv0, vw_st1, vw_iv1, vw_st2, vw_iv2, vw_st3, vw_iv3, vw_st4, vw_iv4, vw_st5, vw_iv5, vkt_v, vkt_n, vg_some, vgi_some, vgi_if, vps_some, vps_if, vcat_nil, vcat_i, vcat_r, vcat_l, vcl_n, vcl_i, vcl_r, vcl_l, Int.reduceToNat, Nat.reduceAdd, Nat.reduceLeDiff, true_and, and_true, true_or, or_true, Option.map_some, Int32.reduceToNatClampNeg, Int32.reduceLT, Int32.reduceLE, vq_1, vq_2, vq_3, vq_4, vq_5, vq_6, vq_7, vq_8, vq_9, vq_10, vq_11, vq_12, vq_13, vq_14, vq_15, vq_16, vq_17, vq_18, vq_19, vq_20, vq_m1, vq_00, Int32.reduceAdd, Int32.reduceSub, Int32.reduceMul, Nat.reduceLT, not_true_eq_false, not_false_eq_true, false_imp_iff, true_imp_iff, false_and, and_false, and_self, vbi_m3, vbi_m2, vbi_6, vbi_7, vbi_8, vbi_9, vbi_10, vbi_11, vbi_12, vbi_13, vbi_14, vbi_15, vbi_16, vbi_17, vbi_18, vbi_19, vbi_20, vbi_21, vbi_24, vbi_31, vbi_32, vbi_33, vbi_47, vbi_48, vbi_96, vbi_97, vbi_122, vbi_126, vsi_128, vsi_129, vsi_192, vsi_200, vsi_255, vsi_256, vsi_338, vsi_339, vsi_352, vsi_353, vsi_376, vsi_400, vsi_402, vsi_710, vsi_732, vsi_4096, vsi_8211, vsi_8212, vsi_8216, vsi_8217, vsi_8218, vsi_8220, vsi_8221, vsi_8222, vsi_8224, vsi_8225, vsi_8226, vsi_8230, vsi_8240, vsi_8249, vsi_8250, vsi_8482, vsi_21552, vsi_21553, vld_m1073741825, vld_m1, vld_1, vld_6, vld_42476, vld_4476739, vld_218951966, vld_1073741824, vlj_2, vlj_3, vlj_7, vlj_8, vlj_256, vlj_1099511627776, vlc_0, vlc_1, h4, Int32.not_le.mpr h4, vby_ushr x hi, v_b255, e1]
  by_cases b : vby x i = 0 <;> simp [b]
theorem m43 {x : Int32} : vo X 43 [.int x] S post ↔ post (some (.int (Int32.ofNat (vlet x)))) S := by
  simp only [vs43, vc43_0, vw_icm1, vw_ic0, vw_ic1, vw_ic2, vw_ic3, vw_ic4, vw_ic5, vw_bi, vw_si, vw_lc, vw_ldc, vw_ldc2, vw_il0, vw_iln0, vw_is0, vw_isn0, vw_il1, vw_iln1, vw_is1, vw_isn1, vw_il2, vw_iln2, vw_is2, vw_isn2, vw_il3, vw_iln3, vw_is3, vw_isn3, vw_il4, vw_is4, vw_il5, vw_is5, vw_il6, vw_is6, vw_il7, vw_is7, vw_al0, vw_aln0, vw_as0, vw_asn0, vw_al1, vw_aln1, vw_as1, vw_asn1, vw_al2, vw_aln2, vw_as2, vw_asn2, vw_al3, vw_aln3, vw_as3, vw_asn3, vw_al4, vw_as4, vw_al5, vw_as5, vw_al6, vw_as6, vw_al7, vw_as7, vw_ll0, vw_lln0, vw_ls0, vw_lsn0, vw_ll1, vw_lln1, vw_ls1, vw_lsn1, vw_ll2, vw_lln2, vw_ls2, vw_lsn2, vw_ll3, vw_lln3, vw_ls3, vw_lsn3, vw_ll4, vw_ls4, vw_ll5, vw_ls5, vw_ll6, vw_ls6, vw_ll7, vw_iinc0, vw_iinc1, vw_iinc2, vw_iinc3, vw_iinc4, vw_iinc5, vw_iinc6, vw_iinc7, vw_iadd, vw_isub, vw_imul, vw_iand, vw_ior, vw_ixor, vw_ishl, vw_ishr, vw_iushr, vw_idiv, vw_irem, vw_ladd, vw_lsub, vw_lmul, vw_ldiv, vw_lcmp, vw_i2l, vw_l2i, vw_dupi, vw_dupr, vw_goto, vw_ic_eq, vw_if_eq, vw_ic_ne, vw_if_ne, vw_ic_lt, vw_if_lt, vw_ic_ge, vw_if_ge, vw_ic_gt, vw_if_gt, vw_ic_le, vw_if_le, vw_gf, vw_pf, vw_iaload, vw_baload, vw_iastore, vw_bastore, vw_alen, vw_gs, vw_aaload, vw_iret, vw_zret, vw_lret, vw_aret, vw_vret, vw_st0, vw_iv0, vw_st1, vw_iv1, vw_st2, vw_iv2, vw_st3, vw_iv3, vw_st4, vw_iv4, vw_st5, vw_iv5, vkt_v, vkt_n, vg_some, vgi_some, vgi_if, vps_some, vps_if, vcat_nil, vcat_i, vcat_r, vcat_l, vcl_n, vcl_i, vcl_r, vcl_l, Int.reduceToNat, Nat.reduceAdd, Nat.reduceLeDiff, true_and, and_true, true_or, or_true, Option.map_some, Int32.reduceToNatClampNeg, Int32.reduceLT, Int32.reduceLE, vq_1, vq_2, vq_3, vq_4, vq_5, vq_6, vq_7, vq_8, vq_9, vq_10, vq_11, vq_12, vq_13, vq_14, vq_15, vq_16, vq_17, vq_18, vq_19, vq_20, vq_m1, vq_00, Int32.reduceAdd, Int32.reduceSub, Int32.reduceMul, Nat.reduceLT, not_true_eq_false, not_false_eq_true, false_imp_iff, true_imp_iff, false_and, and_false, and_self, vbi_m3, vbi_m2, vbi_6, vbi_7, vbi_8, vbi_9, vbi_10, vbi_11, vbi_12, vbi_13, vbi_14, vbi_15, vbi_16, vbi_17, vbi_18, vbi_19, vbi_20, vbi_21, vbi_24, vbi_31, vbi_32, vbi_33, vbi_47, vbi_48, vbi_96, vbi_97, vbi_122, vbi_126, vsi_128, vsi_129, vsi_192, vsi_200, vsi_255, vsi_256, vsi_338, vsi_339, vsi_352, vsi_353, vsi_376, vsi_400, vsi_402, vsi_710, vsi_732, vsi_4096, vsi_8211, vsi_8212, vsi_8216, vsi_8217, vsi_8218, vsi_8220, vsi_8221, vsi_8222, vsi_8224, vsi_8225, vsi_8226, vsi_8230, vsi_8240, vsi_8249, vsi_8250, vsi_8482, vsi_21552, vsi_21553, vld_m1073741825, vld_m1, vld_1, vld_6, vld_42476, vld_4476739, vld_218951966, vld_1073741824, vlj_2, vlj_3, vlj_7, vlj_8, vlj_256, vlj_1099511627776, vlc_0, vlc_1]
  rw [show (0 : Int32) = Int32.ofNat 0 from rfl, l43 (by decide), vb43_4, l43 (by decide), vb43_4, l43 (by decide), vb43_4, l43 (by decide), vb43_4]
  simp only [vc43_4, vb43_32, vc43_32, vw_icm1, vw_ic0, vw_ic1, vw_ic2, vw_ic3, vw_ic4, vw_ic5, vw_bi, vw_si, vw_lc, vw_ldc, vw_ldc2, vw_il0, vw_iln0, vw_is0, vw_isn0, vw_il1, vw_iln1, vw_is1, vw_isn1, vw_il2, vw_iln2, vw_is2, vw_isn2, vw_il3, vw_iln3, vw_is3, vw_isn3, vw_il4, vw_is4, vw_il5, vw_is5, vw_il6, vw_is6, vw_il7, vw_is7, vw_al0, vw_aln0, vw_as0, vw_asn0, vw_al1, vw_aln1, vw_as1, vw_asn1, vw_al2, vw_aln2, vw_as2, vw_asn2, vw_al3, vw_aln3, vw_as3, vw_asn3, vw_al4, vw_as4, vw_al5, vw_as5, vw_al6, vw_as6, vw_al7, vw_as7, vw_ll0, vw_lln0, vw_ls0, vw_lsn0, vw_ll1, vw_lln1, vw_ls1, vw_lsn1, vw_ll2, vw_lln2, vw_ls2, vw_lsn2, vw_ll3, vw_lln3, vw_ls3, vw_lsn3, vw_ll4, vw_ls4, vw_ll5, vw_ls5, vw_ll6, vw_ls6, vw_ll7, vw_iinc0, vw_iinc1, vw_iinc2, vw_iinc3, vw_iinc4, vw_iinc5, vw_iinc6, vw_iinc7, vw_iadd, vw_isub, vw_imul, vw_iand, vw_ior, vw_ixor, vw_ishl, vw_ishr, vw_iushr, vw_idiv, vw_irem, vw_ladd, vw_lsub, vw_lmul, vw_ldiv, vw_lcmp, vw_i2l, vw_l2i, vw_dupi, vw_dupr, vw_goto, vw_ic_eq, vw_if_eq, vw_ic_ne, vw_if_ne, vw_ic_lt, vw_if_lt, vw_ic_ge, vw_if_ge, vw_ic_gt, vw_if_gt, vw_ic_le, vw_if_le, vw_gf, vw_pf, vw_iaload, vw_baload, vw_iastore, vw_bastore, vw_alen, vw_gs, vw_aaload, vw_iret, vw_zret, vw_lret, vw_aret, vw_vret, vw_st0, vw_iv0, vw_st1, vw_iv1, vw_st2, vw_iv2, vw_st3, vw_iv3, vw_st4, vw_iv4, vw_st5, vw_iv5, vkt_v, vkt_n, vg_some, vgi_some, vgi_if, vps_some, vps_if, vcat_nil, vcat_i, vcat_r, vcat_l, vcl_n, vcl_i, vcl_r, vcl_l, Int.reduceToNat, Nat.reduceAdd, Nat.reduceLeDiff, true_and, and_true, true_or, or_true, Option.map_some, Int32.reduceToNatClampNeg, Int32.reduceLT, Int32.reduceLE, vq_1, vq_2, vq_3, vq_4, vq_5, vq_6, vq_7, vq_8, vq_9, vq_10, vq_11, vq_12, vq_13, vq_14, vq_15, vq_16, vq_17, vq_18, vq_19, vq_20, vq_m1, vq_00, Int32.reduceAdd, Int32.reduceSub, Int32.reduceMul, Nat.reduceLT, not_true_eq_false, not_false_eq_true, false_imp_iff, true_imp_iff, false_and, and_false, and_self, vbi_m3, vbi_m2, vbi_6, vbi_7, vbi_8, vbi_9, vbi_10, vbi_11, vbi_12, vbi_13, vbi_14, vbi_15, vbi_16, vbi_17, vbi_18, vbi_19, vbi_20, vbi_21, vbi_24, vbi_31, vbi_32, vbi_33, vbi_47, vbi_48, vbi_96, vbi_97, vbi_122, vbi_126, vsi_128, vsi_129, vsi_192, vsi_200, vsi_255, vsi_256, vsi_338, vsi_339, vsi_352, vsi_353, vsi_376, vsi_400, vsi_402, vsi_710, vsi_732, vsi_4096, vsi_8211, vsi_8212, vsi_8216, vsi_8217, vsi_8218, vsi_8220, vsi_8221, vsi_8222, vsi_8224, vsi_8225, vsi_8226, vsi_8230, vsi_8240, vsi_8249, vsi_8250, vsi_8482, vsi_21552, vsi_21553, vld_m1073741825, vld_m1, vld_1, vld_6, vld_42476, vld_4476739, vld_218951966, vld_1073741824, vlj_2, vlj_3, vlj_7, vlj_8, vlj_256, vlj_1099511627776, vlc_0, vlc_1, show Int32.ofNat (0 + 1 + 1 + 1 + 1) = 4 from rfl]
  have : (if vby x 3 = 0 then if vby x 2 = 0 then if vby x 1 = 0 then if vby x 0 = 0 then Int32.ofNat 0 else Int32.ofNat 1 else Int32.ofNat 2 else Int32.ofNat 3 else Int32.ofNat 4) = Int32.ofNat (vlet x) := by
    unfold vlet
    (repeat' split) <;> rfl
  rw [← this]
  exact Iff.rfl
/-- a proper name -/
def vprop (x : Int32) : Prop := 0 < vlet x ∧ ∀ i, i < vlet x → 33 ≤ vby x i ∧ vby x i ≤ 126
theorem vlet_le (x : Int32) : vlet x ≤ 4 := by
  unfold vlet
  (repeat' split) <;> decide
theorem v_33 {x : Int32} {i : Nat} : (Int32.ofNat (vby x i) < 33 ↔ vby x i < 33) ∧ (33 ≤ Int32.ofNat (vby x i) ↔ 33 ≤ vby x i) ∧ (Int32.ofNat (vby x i) ≤ 126 ↔ vby x i ≤ 126) ∧ (126 < Int32.ofNat (vby x i) ↔ 126 < vby x i) := by
  simp only [vz_lt, vz_le, vby_int, Int32.reduceToInt]
  omega
theorem l42 {x : Int32} {i n : Nat} {y : Option Value} (hi : i < n) (hn : n ≤ 4) : vw X 42 vc42_7 [some (.int x), some (.int (Int32.ofNat n)), some (.int (Int32.ofNat i)), y] [] S post ↔ ((33 ≤ vby x i ∧ vby x i ≤ 126) → vw X 42 (v_B 42 7) [some (.int x), some (.int (Int32.ofNat n)), some (.int (Int32.ofNat (i + 1))), some (.int (Int32.ofNat (vby x i)))] [] S post) ∧ (¬ (33 ≤ vby x i ∧ vby x i ≤ 126) → post (some (.int 0)) S) := by
  obtain ⟨a1, a2, a3, a4⟩ := v_33 (x := x) (i := i)
  simp only [vc42_7, vb42_35, vc42_35, vb42_37, vc42_37, vw_icm1, vw_ic0, vw_ic1, vw_ic2, vw_ic3, vw_ic4, vw_ic5, vw_bi, vw_si, vw_lc, vw_ldc, vw_ldc2, vw_il0, vw_iln0, vw_is0, vw_isn0, vw_il1, vw_iln1, vw_is1, vw_isn1, vw_il2, vw_iln2, vw_is2, vw_isn2, vw_il3, vw_iln3, vw_is3, vw_isn3, vw_il4, vw_is4, vw_il5, vw_is5, vw_il6, vw_is6, vw_il7, vw_is7, vw_al0, vw_aln0, vw_as0, vw_asn0, vw_al1, vw_aln1, vw_as1, vw_asn1, vw_al2, vw_aln2, vw_as2, vw_asn2, vw_al3, vw_aln3, vw_as3, vw_asn3, vw_al4, vw_as4, vw_al5, vw_as5, vw_al6, vw_as6, vw_al7, vw_as7, vw_ll0, vw_lln0, vw_ls0, vw_lsn0, vw_ll1, vw_lln1, vw_ls1, vw_lsn1, vw_ll2, vw_lln2, vw_ls2, vw_lsn2, vw_ll3, vw_lln3, vw_ls3, vw_lsn3, vw_ll4, vw_ls4, vw_ll5, vw_ls5, vw_ll6, vw_ls6, vw_ll7, vw_iinc0, vw_iinc1, vw_iinc2, vw_iinc3, vw_iinc4, vw_iinc5, vw_iinc6, vw_iinc7, vw_iadd, vw_isub, vw_imul, vw_iand, vw_ior, vw_ixor, vw_ishl, vw_ishr, vw_iushr, vw_idiv, vw_irem, vw_ladd, vw_lsub, vw_lmul, vw_ldiv, vw_lcmp, vw_i2l, vw_l2i, vw_dupi, vw_dupr, vw_goto, vw_ic_eq, vw_if_eq, vw_ic_ne, vw_if_ne, vw_ic_lt, vw_if_lt, vw_ic_ge, vw_if_ge, vw_ic_gt, vw_if_gt, vw_ic_le, vw_if_le, vw_gf, vw_pf, vw_iaload, vw_baload, vw_iastore, vw_bastore, vw_alen, vw_gs, vw_aaload, vw_iret, vw_zret, vw_lret, vw_aret, vw_vret, vw_st0, vw_iv0, vw_st1, vw_iv1, vw_st2, vw_iv2, vw_st3, vw_iv3, vw_st4, vw_iv4, vw_st5, vw_iv5, vkt_v, vkt_n, vg_some, vgi_some, vgi_if, vps_some, vps_if, vcat_nil, vcat_i, vcat_r, vcat_l, vcl_n, vcl_i, vcl_r, vcl_l, Int.reduceToNat, Nat.reduceAdd, Nat.reduceLeDiff, true_and, and_true, true_or, or_true, Option.map_some, Int32.reduceToNatClampNeg, Int32.reduceLT, Int32.reduceLE, vq_1, vq_2, vq_3, vq_4, vq_5, vq_6, vq_7, vq_8, vq_9, vq_10, vq_11, vq_12, vq_13, vq_14, vq_15, vq_16, vq_17, vq_18, vq_19, vq_20, vq_m1, vq_00, Int32.reduceAdd, Int32.reduceSub, Int32.reduceMul, Nat.reduceLT, not_true_eq_false, not_false_eq_true, false_imp_iff, true_imp_iff, false_and, and_false, and_self, vbi_m3, vbi_m2, vbi_6, vbi_7, vbi_8, vbi_9, vbi_10, vbi_11, vbi_12, vbi_13, vbi_14, vbi_15, vbi_16, vbi_17, vbi_18, vbi_19, vbi_20, vbi_21, vbi_24, vbi_31, vbi_32, vbi_33, vbi_47, vbi_48, vbi_96, vbi_97, vbi_122, vbi_126, vsi_128, vsi_129, vsi_192, vsi_200, vsi_255, vsi_256, vsi_338, vsi_339, vsi_352, vsi_353, vsi_376, vsi_400, vsi_402, vsi_710, vsi_732, vsi_4096, vsi_8211, vsi_8212, vsi_8216, vsi_8217, vsi_8218, vsi_8220, vsi_8221, vsi_8222, vsi_8224, vsi_8225, vsi_8226, vsi_8230, vsi_8240, vsi_8249, vsi_8250, vsi_8482, vsi_21552, vsi_21553, vld_m1073741825, vld_m1, vld_1, vld_6, vld_42476, vld_4476739, vld_218951966, vld_1073741824, vlj_2, vlj_3, vlj_7, vlj_8, vlj_256, vlj_1099511627776, vlc_0, vlc_1, vby_ushr x (show i < 4 by omega), v_oflt (show i < 2147483648 by omega) (show n < 2147483648 by omega), v_ofle (show n < 2147483648 by omega) (show i < 2147483648 by omega), show ¬ n ≤ i by omega, hi, v_inc, a1, a2, a3, a4]
  by_cases h1 : 33 ≤ vby x i
  · by_cases h2 : vby x i ≤ 126
    · simp [h1, h2, show ¬ vby x i < 33 by omega, show ¬ 126 < vby x i by omega]
    · simp [h1, h2, show ¬ vby x i < 33 by omega, show 126 < vby x i by omega]
  · simp [h1, show vby x i < 33 by omega]
theorem e42 {x : Int32} {n : Nat} {y : Option Value} (hn : n ≤ 4) : vw X 42 vc42_7 [some (.int x), some (.int (Int32.ofNat n)), some (.int (Int32.ofNat n)), y] [] S post ↔ post (some (.int (vtf (0 < n)))) S := by
  have h0 : (Int32.ofNat n ≤ 0 ↔ n ≤ 0) ∧ (0 < Int32.ofNat n ↔ 0 < n) := by
    simp only [vz_lt, vz_le, v_ofn (show n < 2147483648 by omega), Int32.reduceToInt]
    omega
  simp only [vc42_7, vb42_43, vc42_43, vb42_51, vc42_51, vb42_52, vc42_52, vw_icm1, vw_ic0, vw_ic1, vw_ic2, vw_ic3, vw_ic4, vw_ic5, vw_bi, vw_si, vw_lc, vw_ldc, vw_ldc2, vw_il0, vw_iln0, vw_is0, vw_isn0, vw_il1, vw_iln1, vw_is1, vw_isn1, vw_il2, vw_iln2, vw_is2, vw_isn2, vw_il3, vw_iln3, vw_is3, vw_isn3, vw_il4, vw_is4, vw_il5, vw_is5, vw_il6, vw_is6, vw_il7, vw_is7, vw_al0, vw_aln0, vw_as0, vw_asn0, vw_al1, vw_aln1, vw_as1, vw_asn1, vw_al2, vw_aln2, vw_as2, vw_asn2, vw_al3, vw_aln3, vw_as3, vw_asn3, vw_al4, vw_as4, vw_al5, vw_as5, vw_al6, vw_as6, vw_al7, vw_as7, vw_ll0, vw_lln0, vw_ls0, vw_lsn0, vw_ll1, vw_lln1, vw_ls1, vw_lsn1, vw_ll2, vw_lln2, vw_ls2, vw_lsn2, vw_ll3, vw_lln3, vw_ls3, vw_lsn3, vw_ll4, vw_ls4, vw_ll5, vw_ls5, vw_ll6, vw_ls6, vw_ll7, vw_iinc0, vw_iinc1, vw_iinc2, vw_iinc3, vw_iinc4, vw_iinc5, vw_iinc6, vw_iinc7, vw_iadd, vw_isub, vw_imul, vw_iand, vw_ior, vw_ixor, vw_ishl, vw_ishr, vw_iushr, vw_idiv, vw_irem, vw_ladd, vw_lsub, vw_lmul, vw_ldiv, vw_lcmp, vw_i2l, vw_l2i, vw_dupi, vw_dupr, vw_goto, vw_ic_eq, vw_if_eq, vw_ic_ne, vw_if_ne, vw_ic_lt, vw_if_lt, vw_ic_ge, vw_if_ge, vw_ic_gt, vw_if_gt, vw_ic_le, vw_if_le, vw_gf, vw_pf, vw_iaload, vw_baload, vw_iastore, vw_bastore, vw_alen, vw_gs, vw_aaload, vw_iret, vw_zret, vw_lret, vw_aret, vw_vret, vw_st0, vw_iv0, vw_st1, vw_iv1, vw_st2, vw_iv2, vw_st3, vw_iv3, vw_st4, vw_iv4, vw_st5, vw_iv5, vkt_v, vkt_n, vg_some, vgi_some, vgi_if, vps_some, vps_if, vcat_nil, vcat_i, vcat_r, vcat_l, vcl_n, vcl_i, vcl_r, vcl_l, Int.reduceToNat, Nat.reduceAdd, Nat.reduceLeDiff, true_and, and_true, true_or, or_true, Option.map_some, Int32.reduceToNatClampNeg, Int32.reduceLT, Int32.reduceLE, vq_1, vq_2, vq_3, vq_4, vq_5, vq_6, vq_7, vq_8, vq_9, vq_10, vq_11, vq_12, vq_13, vq_14, vq_15, vq_16, vq_17, vq_18, vq_19, vq_20, vq_m1, vq_00, Int32.reduceAdd, Int32.reduceSub, Int32.reduceMul, Nat.reduceLT, not_true_eq_false, not_false_eq_true, false_imp_iff, true_imp_iff, false_and, and_false, and_self, vbi_m3, vbi_m2, vbi_6, vbi_7, vbi_8, vbi_9, vbi_10, vbi_11, vbi_12, vbi_13, vbi_14, vbi_15, vbi_16, vbi_17, vbi_18, vbi_19, vbi_20, vbi_21, vbi_24, vbi_31, vbi_32, vbi_33, vbi_47, vbi_48, vbi_96, vbi_97, vbi_122, vbi_126, vsi_128, vsi_129, vsi_192, vsi_200, vsi_255, vsi_256, vsi_338, vsi_339, vsi_352, vsi_353, vsi_376, vsi_400, vsi_402, vsi_710, vsi_732, vsi_4096, vsi_8211, vsi_8212, vsi_8216, vsi_8217, vsi_8218, vsi_8220, vsi_8221, vsi_8222, vsi_8224, vsi_8225, vsi_8226, vsi_8230, vsi_8240, vsi_8249, vsi_8250, vsi_8482, vsi_21552, vsi_21553, vld_m1073741825, vld_m1, vld_1, vld_6, vld_42476, vld_4476739, vld_218951966, vld_1073741824, vlj_2, vlj_3, vlj_7, vlj_8, vlj_256, vlj_1099511627776, vlc_0, vlc_1, v_oflt (show n < 2147483648 by omega) (show n < 2147483648 by omega), v_ofle (show n < 2147483648 by omega) (show n < 2147483648 by omega), Nat.lt_irrefl, Nat.le_refl, h0.1, h0.2]
  by_cases h : 0 < n
  · rw [vtf_t h]; simp [h, show ¬ n ≤ 0 by omega]
  · rw [vtf_f h]; simp [h, show n ≤ 0 by omega]
theorem m42 {x : Int32} : vo X 42 [.int x] S post ↔ post (some (.int (vtf (vprop x)))) S := by
  simp only [vs42, vc42_0, vw_icm1, vw_ic0, vw_ic1, vw_ic2, vw_ic3, vw_ic4, vw_ic5, vw_bi, vw_si, vw_lc, vw_ldc, vw_ldc2, vw_il0, vw_iln0, vw_is0, vw_isn0, vw_il1, vw_iln1, vw_is1, vw_isn1, vw_il2, vw_iln2, vw_is2, vw_isn2, vw_il3, vw_iln3, vw_is3, vw_isn3, vw_il4, vw_is4, vw_il5, vw_is5, vw_il6, vw_is6, vw_il7, vw_is7, vw_al0, vw_aln0, vw_as0, vw_asn0, vw_al1, vw_aln1, vw_as1, vw_asn1, vw_al2, vw_aln2, vw_as2, vw_asn2, vw_al3, vw_aln3, vw_as3, vw_asn3, vw_al4, vw_as4, vw_al5, vw_as5, vw_al6, vw_as6, vw_al7, vw_as7, vw_ll0, vw_lln0, vw_ls0, vw_lsn0, vw_ll1, vw_lln1, vw_ls1, vw_lsn1, vw_ll2, vw_lln2, vw_ls2, vw_lsn2, vw_ll3, vw_lln3, vw_ls3, vw_lsn3, vw_ll4, vw_ls4, vw_ll5, vw_ls5, vw_ll6, vw_ls6, vw_ll7, vw_iinc0, vw_iinc1, vw_iinc2, vw_iinc3, vw_iinc4, vw_iinc5, vw_iinc6, vw_iinc7, vw_iadd, vw_isub, vw_imul, vw_iand, vw_ior, vw_ixor, vw_ishl, vw_ishr, vw_iushr, vw_idiv, vw_irem, vw_ladd, vw_lsub, vw_lmul, vw_ldiv, vw_lcmp, vw_i2l, vw_l2i, vw_dupi, vw_dupr, vw_goto, vw_ic_eq, vw_if_eq, vw_ic_ne, vw_if_ne, vw_ic_lt, vw_if_lt, vw_ic_ge, vw_if_ge, vw_ic_gt, vw_if_gt, vw_ic_le, vw_if_le, vw_gf, vw_pf, vw_iaload, vw_baload, vw_iastore, vw_bastore, vw_alen, vw_gs, vw_aaload, vw_iret, vw_zret, vw_lret, vw_aret, vw_vret, vw_st0, vw_iv0, vw_st1, vw_iv1, vw_st2, vw_iv2, vw_st3, vw_iv3, vw_st4, vw_iv4, vw_st5, vw_iv5, vkt_v, vkt_n, vg_some, vgi_some, vgi_if, vps_some, vps_if, vcat_nil, vcat_i, vcat_r, vcat_l, vcl_n, vcl_i, vcl_r, vcl_l, Int.reduceToNat, Nat.reduceAdd, Nat.reduceLeDiff, true_and, and_true, true_or, or_true, Option.map_some, Int32.reduceToNatClampNeg, Int32.reduceLT, Int32.reduceLE, vq_1, vq_2, vq_3, vq_4, vq_5, vq_6, vq_7, vq_8, vq_9, vq_10, vq_11, vq_12, vq_13, vq_14, vq_15, vq_16, vq_17, vq_18, vq_19, vq_20, vq_m1, vq_00, Int32.reduceAdd, Int32.reduceSub, Int32.reduceMul, Nat.reduceLT, not_true_eq_false, not_false_eq_true, false_imp_iff, true_imp_iff, false_and, and_false, and_self, vbi_m3, vbi_m2, vbi_6, vbi_7, vbi_8, vbi_9, vbi_10, vbi_11, vbi_12, vbi_13, vbi_14, vbi_15, vbi_16, vbi_17, vbi_18, vbi_19, vbi_20, vbi_21, vbi_24, vbi_31, vbi_32, vbi_33, vbi_47, vbi_48, vbi_96, vbi_97, vbi_122, vbi_126, vsi_128, vsi_129, vsi_192, vsi_200, vsi_255, vsi_256, vsi_338, vsi_339, vsi_352, vsi_353, vsi_376, vsi_400, vsi_402, vsi_710, vsi_732, vsi_4096, vsi_8211, vsi_8212, vsi_8216, vsi_8217, vsi_8218, vsi_8220, vsi_8221, vsi_8222, vsi_8224, vsi_8225, vsi_8226, vsi_8230, vsi_8240, vsi_8249, vsi_8250, vsi_8482, vsi_21552, vsi_21553, vld_m1073741825, vld_m1, vld_1, vld_6, vld_42476, vld_4476739, vld_218951966, vld_1073741824, vlj_2, vlj_3, vlj_7, vlj_8, vlj_256, vlj_1099511627776, vlc_0, vlc_1, m43]
  have hn := vlet_le x
  have key : ∀ d i y, i + d = vlet x → (vw X 42 vc42_7 [some (.int x), some (.int (Int32.ofNat (vlet x))), some (.int (Int32.ofNat i)), y] [] S post ↔ ((∀ j, i ≤ j → j < vlet x → 33 ≤ vby x j ∧ vby x j ≤ 126) → post (some (.int (vtf (0 < vlet x)))) S) ∧ (¬ (∀ j, i ≤ j → j < vlet x → 33 ≤ vby x j ∧ vby x j ≤ 126) → post (some (.int 0)) S)) := by
    intro d
    induction d with
    | zero =>
      intro i y hi
      have hi : i = vlet x := by omega
      subst hi
      rw [e42 hn]
      have hv : ∀ j, vlet x ≤ j → j < vlet x → 33 ≤ vby x j ∧ vby x j ≤ 126 := fun j h1 h2 => by omega
      exact ⟨fun h => ⟨fun _ => h, fun h2 => absurd hv h2⟩, fun h => h.1 hv⟩
    | succ d ih =>
      intro i y hi
      rw [l42 (by omega) hn, vb42_7, ih (i + 1) _ (by omega)]
      by_cases hp : 33 ≤ vby x i ∧ vby x i ≤ 126
      · have e : (∀ j, i ≤ j → j < vlet x → 33 ≤ vby x j ∧ vby x j ≤ 126) ↔ (∀ j, i + 1 ≤ j → j < vlet x → 33 ≤ vby x j ∧ vby x j ≤ 126) := by
          constructor
          · exact fun h j h1 h2 => h j (by omega) h2
          · intro h j h1 h2
            by_cases hj : j = i
            · rw [hj]; exact hp
            · exact h j (by omega) h2
        rw [e]
        simp only [hp, and_self, true_imp_iff, not_true_eq_false, false_imp_iff, and_true]
      · have e : ¬ (∀ j, i ≤ j → j < vlet x → 33 ≤ vby x j ∧ vby x j ≤ 126) := fun h => hp (h i (Nat.le_refl _) (by omega))
        simp only [hp, e, false_imp_iff, true_and, not_false_eq_true, true_imp_iff]
  rw [show (0 : Int32) = Int32.ofNat 0 from rfl, key (vlet x) 0 _ (by omega)]
  by_cases h1 : 0 < vlet x
  · by_cases h2 : ∀ j, 0 ≤ j → j < vlet x → 33 ≤ vby x j ∧ vby x j ≤ 126
    · have hp : vprop x := ⟨h1, fun i hi => h2 i (Nat.zero_le _) hi⟩
      rw [vtf_t hp, vtf_t h1]
      exact ⟨fun h => h.1 h2, fun h => ⟨fun _ => h, fun g => absurd h2 g⟩⟩
    · have hp : ¬ vprop x := fun h => h2 (fun j _ hj => h.2 j hj)
      rw [vtf_f hp]
      exact ⟨fun h => h.2 h2, fun h => ⟨fun g => absurd g h2, fun _ => h⟩⟩
  · have hp : ¬ vprop x := fun h => h1 h.1
    rw [vtf_f hp, vtf_f h1]
    exact ⟨fun h => h.1 (fun j _ hj => absurd (Nat.lt_of_le_of_lt (Nat.zero_le _) hj) h1), fun h => ⟨fun _ => h, fun _ => h⟩⟩
/-- a letter, small ones as capitals -/
def vfo (c : Nat) : Nat := if 97 ≤ c ∧ c ≤ 122 then c - 32 else c
def vic (a b : Nat) : Int32 := if a < b then -1 else if a = b then 0 else 1
theorem m47 {a b : Nat} (ha : a < 2147483648) (hb : b < 2147483648) : vo X 47 [.int (Int32.ofNat a), .int (Int32.ofNat b)] S post ↔ post (some (.int (vic a b))) S := by
  simp only [vs47, vc47_0, vb47_9, vc47_9, vb47_18, vc47_18, vb47_19, vc47_19, vw_icm1, vw_ic0, vw_ic1, vw_ic2, vw_ic3, vw_ic4, vw_ic5, vw_bi, vw_si, vw_lc, vw_ldc, vw_ldc2, vw_il0, vw_iln0, vw_is0, vw_isn0, vw_il1, vw_iln1, vw_is1, vw_isn1, vw_il2, vw_iln2, vw_is2, vw_isn2, vw_il3, vw_iln3, vw_is3, vw_isn3, vw_il4, vw_is4, vw_il5, vw_is5, vw_il6, vw_is6, vw_il7, vw_is7, vw_al0, vw_aln0, vw_as0, vw_asn0, vw_al1, vw_aln1, vw_as1, vw_asn1, vw_al2, vw_aln2, vw_as2, vw_asn2, vw_al3, vw_aln3, vw_as3, vw_asn3, vw_al4, vw_as4, vw_al5, vw_as5, vw_al6, vw_as6, vw_al7, vw_as7, vw_ll0, vw_lln0, vw_ls0, vw_lsn0, vw_ll1, vw_lln1, vw_ls1, vw_lsn1, vw_ll2, vw_lln2, vw_ls2, vw_lsn2, vw_ll3, vw_lln3, vw_ls3, vw_lsn3, vw_ll4, vw_ls4, vw_ll5, vw_ls5, vw_ll6, vw_ls6, vw_ll7, vw_iinc0, vw_iinc1, vw_iinc2, vw_iinc3, vw_iinc4, vw_iinc5, vw_iinc6, vw_iinc7, vw_iadd, vw_isub, vw_imul, vw_iand, vw_ior, vw_ixor, vw_ishl, vw_ishr, vw_iushr, vw_idiv, vw_irem, vw_ladd, vw_lsub, vw_lmul, vw_ldiv, vw_lcmp, vw_i2l, vw_l2i, vw_dupi, vw_dupr, vw_goto, vw_ic_eq, vw_if_eq, vw_ic_ne, vw_if_ne, vw_ic_lt, vw_if_lt, vw_ic_ge, vw_if_ge, vw_ic_gt, vw_if_gt, vw_ic_le, vw_if_le, vw_gf, vw_pf, vw_iaload, vw_baload, vw_iastore, vw_bastore, vw_alen, vw_gs, vw_aaload, vw_iret, vw_zret, vw_lret, vw_aret, vw_vret, vw_st0, vw_iv0, vw_st1, vw_iv1, vw_st2, vw_iv2, vw_st3, vw_iv3, vw_st4, vw_iv4, vw_st5, vw_iv5, vkt_v, vkt_n, vg_some, vgi_some, vgi_if, vps_some, vps_if, vcat_nil, vcat_i, vcat_r, vcat_l, vcl_n, vcl_i, vcl_r, vcl_l, Int.reduceToNat, Nat.reduceAdd, Nat.reduceLeDiff, true_and, and_true, true_or, or_true, Option.map_some, Int32.reduceToNatClampNeg, Int32.reduceLT, Int32.reduceLE, vq_1, vq_2, vq_3, vq_4, vq_5, vq_6, vq_7, vq_8, vq_9, vq_10, vq_11, vq_12, vq_13, vq_14, vq_15, vq_16, vq_17, vq_18, vq_19, vq_20, vq_m1, vq_00, Int32.reduceAdd, Int32.reduceSub, Int32.reduceMul, Nat.reduceLT, not_true_eq_false, not_false_eq_true, false_imp_iff, true_imp_iff, false_and, and_false, and_self, vbi_m3, vbi_m2, vbi_6, vbi_7, vbi_8, vbi_9, vbi_10, vbi_11, vbi_12, vbi_13, vbi_14, vbi_15, vbi_16, vbi_17, vbi_18, vbi_19, vbi_20, vbi_21, vbi_24, vbi_31, vbi_32, vbi_33, vbi_47, vbi_48, vbi_96, vbi_97, vbi_122, vbi_126, vsi_128, vsi_129, vsi_192, vsi_200, vsi_255, vsi_256, vsi_338, vsi_339, vsi_352, vsi_353, vsi_376, vsi_400, vsi_402, vsi_710, vsi_732, vsi_4096, vsi_8211, vsi_8212, vsi_8216, vsi_8217, vsi_8218, vsi_8220, vsi_8221, vsi_8222, vsi_8224, vsi_8225, vsi_8226, vsi_8230, vsi_8240, vsi_8249, vsi_8250, vsi_8482, vsi_21552, vsi_21553, vld_m1073741825, vld_m1, vld_1, vld_6, vld_42476, vld_4476739, vld_218951966, vld_1073741824, vlj_2, vlj_3, vlj_7, vlj_8, vlj_256, vlj_1099511627776, vlc_0, vlc_1, v_oflt ha hb, v_ofle hb ha, v_ofeq ha hb, vic]
  by_cases h1 : a < b
  · simp [h1, show ¬ b ≤ a by omega]
  · by_cases h2 : a = b
    · simp [h2]
    · simp [h1, h2, show b ≤ a by omega]
theorem v_97 {x : Int32} {i : Nat} : (Int32.ofNat (vby x i) < 97 ↔ vby x i < 97) ∧ (97 ≤ Int32.ofNat (vby x i) ↔ 97 ≤ vby x i) ∧ (Int32.ofNat (vby x i) ≤ 122 ↔ vby x i ≤ 122) ∧ (122 < Int32.ofNat (vby x i) ↔ 122 < vby x i) := by
  simp only [vz_lt, vz_le, vby_int, Int32.reduceToInt]
  omega
theorem v_sub32 {c : Nat} (h1 : 97 ≤ c) (h2 : c < 256) : Int32.ofNat c - 32 = Int32.ofNat (c - 32) := by
  rw [vz_eq, v_ofn (by omega), Int32.toInt_sub, v_ofn (by omega)]
  simp only [Int32.reduceToInt, Int.bmod]
  omega
theorem m48 {x : Int32} {i : Nat} (hi : i < 4) : vo X 48 [.int x, .int (Int32.ofNat i)] S post ↔ post (some (.int (Int32.ofNat (vfo (vby x i))))) S := by
  obtain ⟨a1, a2, a3, a4⟩ := v_97 (x := x) (i := i)
  have hb := vby_lt x i
  simp only [vs48, vc48_0, vb48_30, vc48_30, vb48_31, vc48_31, vw_icm1, vw_ic0, vw_ic1, vw_ic2, vw_ic3, vw_ic4, vw_ic5, vw_bi, vw_si, vw_lc, vw_ldc, vw_ldc2, vw_il0, vw_iln0, vw_is0, vw_isn0, vw_il1, vw_iln1, vw_is1, vw_isn1, vw_il2, vw_iln2, vw_is2, vw_isn2, vw_il3, vw_iln3, vw_is3, vw_isn3, vw_il4, vw_is4, vw_il5, vw_is5, vw_il6, vw_is6, vw_il7, vw_is7, vw_al0, vw_aln0, vw_as0, vw_asn0, vw_al1, vw_aln1, vw_as1, vw_asn1, vw_al2, vw_aln2, vw_as2, vw_asn2, vw_al3, vw_aln3, vw_as3, vw_asn3, vw_al4, vw_as4, vw_al5, vw_as5, vw_al6, vw_as6, vw_al7, vw_as7, vw_ll0, vw_lln0, vw_ls0, vw_lsn0, vw_ll1, vw_lln1, vw_ls1, vw_lsn1, vw_ll2, vw_lln2, vw_ls2, vw_lsn2, vw_ll3, vw_lln3, vw_ls3, vw_lsn3, vw_ll4, vw_ls4, vw_ll5, vw_ls5, vw_ll6, vw_ls6, vw_ll7, vw_iinc0, vw_iinc1, vw_iinc2, vw_iinc3, vw_iinc4, vw_iinc5, vw_iinc6, vw_iinc7, vw_iadd, vw_isub, vw_imul, vw_iand, vw_ior, vw_ixor, vw_ishl, vw_ishr, vw_iushr, vw_idiv, vw_irem, vw_ladd, vw_lsub, vw_lmul, vw_ldiv, vw_lcmp, vw_i2l, vw_l2i, vw_dupi, vw_dupr, vw_goto, vw_ic_eq, vw_if_eq, vw_ic_ne, vw_if_ne, vw_ic_lt, vw_if_lt, vw_ic_ge, vw_if_ge, vw_ic_gt, vw_if_gt, vw_ic_le, vw_if_le, vw_gf, vw_pf, vw_iaload, vw_baload, vw_iastore, vw_bastore, vw_alen, vw_gs, vw_aaload, vw_iret, vw_zret, vw_lret, vw_aret, vw_vret, vw_st0, vw_iv0, vw_st1, vw_iv1, vw_st2, vw_iv2, vw_st3, vw_iv3, vw_st4, vw_iv4, vw_st5, vw_iv5, vkt_v, vkt_n, vg_some, vgi_some, vgi_if, vps_some, vps_if, vcat_nil, vcat_i, vcat_r, vcat_l, vcl_n, vcl_i, vcl_r, vcl_l, Int.reduceToNat, Nat.reduceAdd, Nat.reduceLeDiff, true_and, and_true, true_or, or_true, Option.map_some, Int32.reduceToNatClampNeg, Int32.reduceLT, Int32.reduceLE, vq_1, vq_2, vq_3, vq_4, vq_5, vq_6, vq_7, vq_8, vq_9, vq_10, vq_11, vq_12, vq_13, vq_14, vq_15, vq_16, vq_17, vq_18, vq_19, vq_20, vq_m1, vq_00, Int32.reduceAdd, Int32.reduceSub, Int32.reduceMul, Nat.reduceLT, not_true_eq_false, not_false_eq_true, false_imp_iff, true_imp_iff, false_and, and_false, and_self, vbi_m3, vbi_m2, vbi_6, vbi_7, vbi_8, vbi_9, vbi_10, vbi_11, vbi_12, vbi_13, vbi_14, vbi_15, vbi_16, vbi_17, vbi_18, vbi_19, vbi_20, vbi_21, vbi_24, vbi_31, vbi_32, vbi_33, vbi_47, vbi_48, vbi_96, vbi_97, vbi_122, vbi_126, vsi_128, vsi_129, vsi_192, vsi_200, vsi_255, vsi_256, vsi_338, vsi_339, vsi_352, vsi_353, vsi_376, vsi_400, vsi_402, vsi_710, vsi_732, vsi_4096, vsi_8211, vsi_8212, vsi_8216, vsi_8217, vsi_8218, vsi_8220, vsi_8221, vsi_8222, vsi_8224, vsi_8225, vsi_8226, vsi_8230, vsi_8240, vsi_8249, vsi_8250, vsi_8482, vsi_21552, vsi_21553, vld_m1073741825, vld_m1, vld_1, vld_6, vld_42476, vld_4476739, vld_218951966, vld_1073741824, vlj_2, vlj_3, vlj_7, vlj_8, vlj_256, vlj_1099511627776, vlc_0, vlc_1, vby_ushr x hi, a1, a2, a3, a4, vfo]
  by_cases h1 : 97 ≤ vby x i
  · by_cases h2 : vby x i ≤ 122
    · simp [h1, h2, show ¬ vby x i < 97 by omega, show ¬ 122 < vby x i by omega, v_sub32 h1 hb]
    · simp [h1, h2, show ¬ vby x i < 97 by omega, show 122 < vby x i by omega]
  · simp [h1, show vby x i < 97 by omega]
/-- the order of names -/
def vrk (x : Int32) : Nat := vfo (vby x 0) + 256 * vfo (vby x 1) + 65536 * vfo (vby x 2) + 16777216 * vfo (vby x 3)
theorem vfo_b {c : Nat} (h : c < 256) : vfo c < 256 ∧ (vfo c = 0 ↔ c = 0) := by
  unfold vfo
  split <;> omega
theorem vlet_b (x : Int32) : (∀ i, i < 4 → vlet x ≤ i → vby x i = 0) ∧ ∀ n, vlet x = n + 1 → vby x n ≠ 0 := by
  have h : ∀ i, i < 4 → vlet x ≤ i → vby x i = 0 := by
    intro i hi hl
    unfold vlet at hl
    match i, hi with
    | 0, _ => (repeat' split at hl) <;> first | assumption | omega
    | 1, _ => (repeat' split at hl) <;> first | assumption | omega
    | 2, _ => (repeat' split at hl) <;> first | assumption | omega
    | 3, _ => (repeat' split at hl) <;> first | assumption | omega
  refine ⟨h, fun n hn => ?_⟩
  have h4 := vlet_le x
  unfold vlet at hn
  match n, hn with
  | 0, hn => (repeat' split at hn) <;> first | assumption | omega
  | 1, hn => (repeat' split at hn) <;> first | assumption | omega
  | 2, hn => (repeat' split at hn) <;> first | assumption | omega
  | 3, hn => (repeat' split at hn) <;> first | assumption | omega
  | n + 4, hn => (repeat' split at hn) <;> omega
end V67
