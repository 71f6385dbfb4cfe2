/-! The file: the table, chains; the reference. -/
section MEM
variable {M : Nat → Nat → Int32} {f : Nat → Int32} {n j i k : Nat} {x : Int32}
theorem vr_ne (h : ¬ j = n) : vi_row M n f j = M j := by unfold vi_row; rw [if_neg h]
theorem vr_eq : vi_row M n f n = f := by unfold vi_row; rw [if_pos rfl]
theorem vu_ne (h : ¬ j = n) : vi_up M n i x j = M j := by unfold vi_up; rw [vr_ne h]
theorem vu_eq : vi_up M n i x n = upd (M n) i x := by unfold vi_up; rw [vr_eq]
theorem upd_eq : upd f k x k = x := by simp [upd]
theorem upd_ne (h : ¬ i = k) : upd f k x i = f i := by simp [upd, h]
theorem vr_self : vi_row M n (M n) = M := vi_row_self M n
theorem vr_row {g : Nat → Int32} : vi_row (vi_row M n f) n g = vi_row M n g := by
  funext a
  by_cases h : a = n
  · subst h; rw [vr_eq, vr_eq]
  · rw [vr_ne h, vr_ne h, vr_ne h]
theorem vr_com {g : Nat → Int32} {m : Nat} (h : ¬ m = n) : vi_row (vi_row M n f) m g = vi_row (vi_row M m g) n f := by
  funext a
  by_cases h1 : a = n
  · subst h1
    rw [vr_ne (fun e => h e.symm), vr_eq, vr_eq]
  · rw [vr_ne (n := n) h1]
    by_cases h2 : a = m
    · subst h2; rw [vr_eq, vr_eq]
    · rw [vr_ne h2, vr_ne h2, vr_ne h1]
end MEM
/-- what is said of the file: its words, its sectors -/
def s_h (w : Nat → Int32) (N : Int32) : Prop := 2 ≤ N ∧ w 0 = 218951966 ∧ 1 ≤ w 1 ∧ w 1 ≤ 3
/-- an entry of the table -/
def s_tab (w : Nat → Int32) (n : Nat) : Int32 := w (8 * (w (2 + n / 8)).toNatClampNeg + n % 8)
/-- a sector that the table lists -/
def s_ok (w : Nat → Int32) (N : Int32) (s : Int32) : Prop := 1 ≤ s ∧ s < N ∧ s < 8 * w 1
/-- a chain by its next, from a start -/
noncomputable def s_ch (nx : Nat → Int32) (ok : Int32 → Prop) : Nat → Int32 → Option (List Nat)
  | 0, s => if s = -2 then some [] else none
  | n + 1, s => if s = -2 then some [] else @ite _ (ok s) (Classical.propDecidable _) ((s_ch nx ok n (nx s.toNatClampNeg)).map (fun l => s.toNatClampNeg :: l)) none
theorem v_divn {n k : Nat} (hn : n < 2147483648) (hk : k < 2147483648) : Int32.ofNat n / Int32.ofNat k = Int32.ofNat (n / k) := by
  have h1 : n / k < 2147483648 := Nat.lt_of_le_of_lt (Nat.div_le_self _ _) hn
  rw [vz_eq, Int32.toInt_div, v_ofn hn, v_ofn hk, v_ofn h1, ← Int.ofNat_tdiv]
  generalize n / k = q at h1 ⊢
  exact vz_bm (by omega) (by omega)
theorem v_subn {n m : Nat} (h : m ≤ n) : Int32.ofNat n - Int32.ofNat m = Int32.ofNat (n - m) := by
  have e : n = (n - m) + m := by omega
  rw [e, Int32.ofNat_add, Int32.add_sub_cancel]
  congr 1
  omega
theorem v_muln {n m : Nat} : Int32.ofNat n * Int32.ofNat m = Int32.ofNat (n * m) := (Int32.ofNat_mul n m).symm
theorem v_addn {n m : Nat} : Int32.ofNat n + Int32.ofNat m = Int32.ofNat (n + m) := (Int32.ofNat_add n m).symm
theorem v_modn {n k : Nat} (hn : n < 2147483648) (hk : k < 2147483648) : Int32.ofNat n - Int32.ofNat n / Int32.ofNat k * Int32.ofNat k = Int32.ofNat (n % k) := by
  rw [v_divn hn hk, v_muln, v_subn (Nat.div_mul_le_self n k)]
  congr 1
  have := Nat.div_add_mod n k
  rw [Nat.mul_comm] at this
  omega
/-- in an array's bounds, as the rules ask -/
theorem v_in {n L : Nat} (h : n < L) (hL : L ≤ 400) : (0 ≤ Int32.ofNat n ∧ n < L) ↔ True := by
  have h1 : (0 : Int32) ≤ Int32.ofNat n := by
    rw [vz_le, v_ofn (by omega)]
    simp only [Int32.reduceToInt]
    omega
  simp only [h1, h, and_self]
section V70
variable {X : vi_Ex} {M : Nat → Nat → Int32} {post : Option Value → vi_Me → Prop}
theorem m157 {s : Int32} : vo X 157 [.ref 54, .int s] (v_sh, M) post ↔ post (some (.int (vtf (s_ok (M 55) (M 54 1) s)))) (v_sh, M) := by
  simp only [vs157, vc157_0, vb157_30, vc157_30, vb157_31, vc157_31, vw_icm1, vw_ic0, vw_ic1, vw_ic2, vw_ic3, vw_ic4, vw_ic5, vw_bi, vw_si, vw_lc, vw_ldc, vw_ldc2, vw_il0, vw_iln0, vw_is0, vw_isn0, vw_il1, vw_iln1, vw_is1, vw_isn1, vw_il2, vw_iln2, vw_is2, vw_isn2, vw_il3, vw_iln3, vw_is3, vw_isn3, vw_il4, vw_is4, vw_il5, vw_is5, vw_il6, vw_is6, vw_il7, vw_is7, vw_al0, vw_aln0, vw_as0, vw_asn0, vw_al1, vw_aln1, vw_as1, vw_asn1, vw_al2, vw_aln2, vw_as2, vw_asn2, vw_al3, vw_aln3, vw_as3, vw_asn3, vw_al4, vw_as4, vw_al5, vw_as5, vw_al6, vw_as6, vw_al7, vw_as7, vw_ll0, vw_lln0, vw_ls0, vw_lsn0, vw_ll1, vw_lln1, vw_ls1, vw_lsn1, vw_ll2, vw_lln2, vw_ls2, vw_lsn2, vw_ll3, vw_lln3, vw_ls3, vw_lsn3, vw_ll4, vw_ls4, vw_ll5, vw_ls5, vw_ll6, vw_ls6, vw_ll7, vw_iinc0, vw_iinc1, vw_iinc2, vw_iinc3, vw_iinc4, vw_iinc5, vw_iinc6, vw_iinc7, vw_iadd, vw_isub, vw_imul, vw_iand, vw_ior, vw_ixor, vw_ishl, vw_ishr, vw_iushr, vw_idiv, vw_irem, vw_ladd, vw_lsub, vw_lmul, vw_ldiv, vw_lcmp, vw_i2l, vw_l2i, vw_dupi, vw_dupr, vw_goto, vw_ic_eq, vw_if_eq, vw_ic_ne, vw_if_ne, vw_ic_lt, vw_if_lt, vw_ic_ge, vw_if_ge, vw_ic_gt, vw_if_gt, vw_ic_le, vw_if_le, vw_gf, vw_pf, vw_iaload, vw_baload, vw_iastore, vw_bastore, vw_alen, vw_gs, vw_aaload, vw_iret, vw_zret, vw_lret, vw_aret, vw_vret, vw_st0, vw_iv0, vw_st1, vw_iv1, vw_st2, vw_iv2, vw_st3, vw_iv3, vw_st4, vw_iv4, vw_st5, vw_iv5, vkt_v, vkt_n, vg_some, vgi_some, vgi_if, vps_some, vps_if, vcat_nil, vcat_i, vcat_r, vcat_l, vcl_n, vcl_i, vcl_r, vcl_l, Int.reduceToNat, Nat.reduceAdd, Nat.reduceLeDiff, true_and, and_true, true_or, or_true, Option.map_some, Int32.reduceToNatClampNeg, Int32.reduceLT, Int32.reduceLE, vq_1, vq_2, vq_3, vq_4, vq_5, vq_6, vq_7, vq_8, vq_9, vq_10, vq_11, vq_12, vq_13, vq_14, vq_15, vq_16, vq_17, vq_18, vq_19, vq_20, vq_m1, vq_00, Int32.reduceAdd, Int32.reduceSub, Int32.reduceMul, Nat.reduceLT, not_true_eq_false, not_false_eq_true, false_imp_iff, true_imp_iff, false_and, and_false, and_self, vbi_m3, vbi_m2, vbi_6, vbi_7, vbi_8, vbi_9, vbi_10, vbi_11, vbi_12, vbi_13, vbi_14, vbi_15, vbi_16, vbi_17, vbi_18, vbi_19, vbi_20, vbi_21, vbi_24, vbi_31, vbi_32, vbi_33, vbi_47, vbi_48, vbi_96, vbi_97, vbi_122, vbi_126, vsi_128, vsi_129, vsi_192, vsi_200, vsi_255, vsi_256, vsi_338, vsi_339, vsi_352, vsi_353, vsi_376, vsi_400, vsi_402, vsi_710, vsi_732, vsi_4096, vsi_8211, vsi_8212, vsi_8216, vsi_8217, vsi_8218, vsi_8220, vsi_8221, vsi_8222, vsi_8224, vsi_8225, vsi_8226, vsi_8230, vsi_8240, vsi_8249, vsi_8250, vsi_8482, vsi_21552, vsi_21553, vld_m1073741825, vld_m1, vld_1, vld_6, vld_42476, vld_4476739, vld_218951966, vld_1073741824, vlj_2, vlj_3, vlj_7, vlj_8, vlj_256, vlj_1099511627776, vlc_0, vlc_1, vf54_0, vf54_1, vp54_1, vf54_2, vp54_2, vf54_3, vp54_3, vf54_4, vf54_5, vf54_6, vf54_7, vf54_8, vf54_9, vp54_9, vf54_10, vp54_10, vf54_11, vp54_11, vf54_12, vf54_13, vf54_14, vf54_15, vf54_16, vf54_17, vp54_17, vf54_18, vf54_19, vf54_20, vp54_20, vf54_21, vp54_21, vf54_22, vp54_22, vf54_23, vf54_24, vp54_24, vf54_25, vp54_25, vf54_26, vp54_26, vf54_27, vp54_27, vf54_28, vp54_28, vf54_29, vp54_29, vf54_30, vp54_30, vf54_31, vp54_31, vf54_32, vp54_32, vf54_33, vp54_33, vis54, val55, vas55, vle55]
  by_cases h1 : 1 ≤ s
  · by_cases h2 : s < M 54 1
    · by_cases h3 : s < 8 * M 55 1
      · rw [vtf_t (show s_ok (M 55) (M 54 1) s from ⟨h1, h2, h3⟩)]
        simp [h1, h2, h3, Int32.not_lt.mpr h1, Int32.not_le.mpr h2, Int32.not_le.mpr h3]
      · rw [vtf_f (fun h : s_ok (M 55) (M 54 1) s => h3 h.2.2)]
        simp [h1, h2, h3, Int32.not_lt.mpr h1, Int32.not_le.mpr h2, Int32.not_lt.mp h3]
    · rw [vtf_f (fun h : s_ok (M 55) (M 54 1) s => h2 h.2.1)]
      simp [h1, h2, Int32.not_lt.mpr h1, Int32.not_lt.mp h2]
  · rw [vtf_f (fun h : s_ok (M 55) (M 54 1) s => h1 h.1)]
    simp [h1, Int32.not_le.mp h1]
theorem m155 {n t : Nat} (hn : n < 24) (ht : M 55 (2 + n / 8) = Int32.ofNat t) (ht2 : t < 24) : vo X 155 [.ref 54, .int (Int32.ofNat n)] (v_sh, M) post ↔ post (some (.int (M 55 (8 * t + n % 8)))) (v_sh, M) := by
  have e8 : (8 : Int32) = Int32.ofNat 8 := rfl
  have e2 : (2 : Int32) = Int32.ofNat 2 := rfl
  have h1 : ¬ (8 : Int32) = 0 := by decide
  simp only [vs155, vc155_0, vw_icm1, vw_ic0, vw_ic1, vw_ic2, vw_ic3, vw_ic4, vw_ic5, vw_bi, vw_si, vw_lc, vw_ldc, vw_ldc2, vw_il0, vw_iln0, vw_is0, vw_isn0, vw_il1, vw_iln1, vw_is1, vw_isn1, vw_il2, vw_iln2, vw_is2, vw_isn2, vw_il3, vw_iln3, vw_is3, vw_isn3, vw_il4, vw_is4, vw_il5, vw_is5, vw_il6, vw_is6, vw_il7, vw_is7, vw_al0, vw_aln0, vw_as0, vw_asn0, vw_al1, vw_aln1, vw_as1, vw_asn1, vw_al2, vw_aln2, vw_as2, vw_asn2, vw_al3, vw_aln3, vw_as3, vw_asn3, vw_al4, vw_as4, vw_al5, vw_as5, vw_al6, vw_as6, vw_al7, vw_as7, vw_ll0, vw_lln0, vw_ls0, vw_lsn0, vw_ll1, vw_lln1, vw_ls1, vw_lsn1, vw_ll2, vw_lln2, vw_ls2, vw_lsn2, vw_ll3, vw_lln3, vw_ls3, vw_lsn3, vw_ll4, vw_ls4, vw_ll5, vw_ls5, vw_ll6, vw_ls6, vw_ll7, vw_iinc0, vw_iinc1, vw_iinc2, vw_iinc3, vw_iinc4, vw_iinc5, vw_iinc6, vw_iinc7, vw_iadd, vw_isub, vw_imul, vw_iand, vw_ior, vw_ixor, vw_ishl, vw_ishr, vw_iushr, vw_idiv, vw_irem, vw_ladd, vw_lsub, vw_lmul, vw_ldiv, vw_lcmp, vw_i2l, vw_l2i, vw_dupi, vw_dupr, vw_goto, vw_ic_eq, vw_if_eq, vw_ic_ne, vw_if_ne, vw_ic_lt, vw_if_lt, vw_ic_ge, vw_if_ge, vw_ic_gt, vw_if_gt, vw_ic_le, vw_if_le, vw_gf, vw_pf, vw_iaload, vw_baload, vw_iastore, vw_bastore, vw_alen, vw_gs, vw_aaload, vw_iret, vw_zret, vw_lret, vw_aret, vw_vret, vw_st0, vw_iv0, vw_st1, vw_iv1, vw_st2, vw_iv2, vw_st3, vw_iv3, vw_st4, vw_iv4, vw_st5, vw_iv5, vkt_v, vkt_n, vg_some, vgi_some, vgi_if, vps_some, vps_if, vcat_nil, vcat_i, vcat_r, vcat_l, vcl_n, vcl_i, vcl_r, vcl_l, Int.reduceToNat, Nat.reduceAdd, Nat.reduceLeDiff, true_and, and_true, true_or, or_true, Option.map_some, Int32.reduceToNatClampNeg, Int32.reduceLT, Int32.reduceLE, vq_1, vq_2, vq_3, vq_4, vq_5, vq_6, vq_7, vq_8, vq_9, vq_10, vq_11, vq_12, vq_13, vq_14, vq_15, vq_16, vq_17, vq_18, vq_19, vq_20, vq_m1, vq_00, Int32.reduceAdd, Int32.reduceSub, Int32.reduceMul, Nat.reduceLT, not_true_eq_false, not_false_eq_true, false_imp_iff, true_imp_iff, false_and, and_false, and_self, vbi_m3, vbi_m2, vbi_6, vbi_7, vbi_8, vbi_9, vbi_10, vbi_11, vbi_12, vbi_13, vbi_14, vbi_15, vbi_16, vbi_17, vbi_18, vbi_19, vbi_20, vbi_21, vbi_24, vbi_31, vbi_32, vbi_33, vbi_47, vbi_48, vbi_96, vbi_97, vbi_122, vbi_126, vsi_128, vsi_129, vsi_192, vsi_200, vsi_255, vsi_256, vsi_338, vsi_339, vsi_352, vsi_353, vsi_376, vsi_400, vsi_402, vsi_710, vsi_732, vsi_4096, vsi_8211, vsi_8212, vsi_8216, vsi_8217, vsi_8218, vsi_8220, vsi_8221, vsi_8222, vsi_8224, vsi_8225, vsi_8226, vsi_8230, vsi_8240, vsi_8249, vsi_8250, vsi_8482, vsi_21552, vsi_21553, vld_m1073741825, vld_m1, vld_1, vld_6, vld_42476, vld_4476739, vld_218951966, vld_1073741824, vlj_2, vlj_3, vlj_7, vlj_8, vlj_256, vlj_1099511627776, vlc_0, vlc_1, vf54_0, vf54_1, vp54_1, vf54_2, vp54_2, vf54_3, vp54_3, vf54_4, vf54_5, vf54_6, vf54_7, vf54_8, vf54_9, vp54_9, vf54_10, vp54_10, vf54_11, vp54_11, vf54_12, vf54_13, vf54_14, vf54_15, vf54_16, vf54_17, vp54_17, vf54_18, vf54_19, vf54_20, vp54_20, vf54_21, vp54_21, vf54_22, vp54_22, vf54_23, vf54_24, vp54_24, vf54_25, vp54_25, vf54_26, vp54_26, vf54_27, vp54_27, vf54_28, vp54_28, vf54_29, vp54_29, vf54_30, vp54_30, vf54_31, vp54_31, vf54_32, vp54_32, vf54_33, vp54_33, vis54, val55, vas55, vle55, h1]
  rw [e8, e2, v_modn (show n < 2147483648 by omega) (by decide), v_divn (show n < 2147483648 by omega) (by decide), v_addn]
  simp only [v_in (show 2 + n / 8 < 192 by omega) (by decide), v_ofx (show 2 + n / 8 < 2147483648 by omega), ht, v_muln, v_addn, v_in (show 8 * t + n % 8 < 192 by omega) (by decide), v_ofx (show 8 * t + n % 8 < 2147483648 by omega), true_and]
end V70
