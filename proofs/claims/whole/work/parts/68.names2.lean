/-! Names, on: their order on both sides. -/
def vcml (a b : Int32) : Nat → Int32 → Int32
  | 0, s => s
  | n + 1, s => if s = 0 then vcml a b n (vic (vfo (vby a n)) (vfo (vby b n))) else s
theorem v_dec1 {n : Nat} : Int32.ofNat (n + 1) - 1 = Int32.ofNat n := by
  rw [← v_inc]
  exact Int32.add_sub_cancel _ _
theorem v_decm {x : Int32} : x + (-1) = x - 1 := by
  rw [Int32.sub_eq_add_neg]
section V68
variable {X : vi_Ex} {S : vi_Me} {post : Option Value → vi_Me → Prop}
theorem l46 {a b l : Int32} : ∀ (n : Nat) (s : Int32), n ≤ 4 → (vw X 46 vc46_19 [some (.int a), some (.int b), some (.int l), some (.int s), some (.int (Int32.ofNat n - 1))] [] S post ↔ post (some (.int (vcml a b n s))) S) := by
  intro n
  induction n with
  | zero =>
    intro s _
    simp only [vc46_19, vb46_50, vc46_50, vw_icm1, vw_ic0, vw_ic1, vw_ic2, vw_ic3, vw_ic4, vw_ic5, vw_bi, vw_si, vw_lc, vw_ldc, vw_ldc2, vw_il0, vw_iln0, vw_is0, vw_isn0, vw_il1, vw_iln1, vw_is1, vw_isn1, vw_il2, vw_iln2, vw_is2, vw_isn2, vw_il3, vw_iln3, vw_is3, vw_isn3, vw_il4, vw_is4, vw_il5, vw_is5, vw_il6, vw_is6, vw_il7, vw_is7, vw_al0, vw_aln0, vw_as0, vw_asn0, vw_al1, vw_aln1, vw_as1, vw_asn1, vw_al2, vw_aln2, vw_as2, vw_asn2, vw_al3, vw_aln3, vw_as3, vw_asn3, vw_al4, vw_as4, vw_al5, vw_as5, vw_al6, vw_as6, vw_al7, vw_as7, vw_ll0, vw_lln0, vw_ls0, vw_lsn0, vw_ll1, vw_lln1, vw_ls1, vw_lsn1, vw_ll2, vw_lln2, vw_ls2, vw_lsn2, vw_ll3, vw_lln3, vw_ls3, vw_lsn3, vw_ll4, vw_ls4, vw_ll5, vw_ls5, vw_ll6, vw_ls6, vw_ll7, vw_iinc0, vw_iinc1, vw_iinc2, vw_iinc3, vw_iinc4, vw_iinc5, vw_iinc6, vw_iinc7, vw_iadd, vw_isub, vw_imul, vw_iand, vw_ior, vw_ixor, vw_ishl, vw_ishr, vw_iushr, vw_idiv, vw_irem, vw_ladd, vw_lsub, vw_lmul, vw_ldiv, vw_lcmp, vw_i2l, vw_l2i, vw_dupi, vw_dupr, vw_goto, vw_ic_eq, vw_if_eq, vw_ic_ne, vw_if_ne, vw_ic_lt, vw_if_lt, vw_ic_ge, vw_if_ge, vw_ic_gt, vw_if_gt, vw_ic_le, vw_if_le, vw_gf, vw_pf, vw_iaload, vw_baload, vw_iastore, vw_bastore, vw_alen, vw_gs, vw_aaload, vw_iret, vw_zret, vw_lret, vw_aret, vw_vret, vw_st0, vw_iv0, vw_st1, vw_iv1, vw_st2, vw_iv2, vw_st3, vw_iv3, vw_st4, vw_iv4, vw_st5, vw_iv5, vkt_v, vkt_n, vg_some, vgi_some, vgi_if, vps_some, vps_if, vcat_nil, vcat_i, vcat_r, vcat_l, vcl_n, vcl_i, vcl_r, vcl_l, Int.reduceToNat, Nat.reduceAdd, Nat.reduceLeDiff, true_and, and_true, true_or, or_true, Option.map_some, Int32.reduceToNatClampNeg, Int32.reduceLT, Int32.reduceLE, vq_1, vq_2, vq_3, vq_4, vq_5, vq_6, vq_7, vq_8, vq_9, vq_10, vq_11, vq_12, vq_13, vq_14, vq_15, vq_16, vq_17, vq_18, vq_19, vq_20, vq_m1, vq_00, Int32.reduceAdd, Int32.reduceSub, Int32.reduceMul, Nat.reduceLT, not_true_eq_false, not_false_eq_true, false_imp_iff, true_imp_iff, false_and, and_false, and_self, vbi_m3, vbi_m2, vbi_6, vbi_7, vbi_8, vbi_9, vbi_10, vbi_11, vbi_12, vbi_13, vbi_14, vbi_15, vbi_16, vbi_17, vbi_18, vbi_19, vbi_20, vbi_21, vbi_24, vbi_31, vbi_32, vbi_33, vbi_47, vbi_48, vbi_96, vbi_97, vbi_122, vbi_126, vsi_128, vsi_129, vsi_192, vsi_200, vsi_255, vsi_256, vsi_338, vsi_339, vsi_352, vsi_353, vsi_376, vsi_400, vsi_402, vsi_710, vsi_732, vsi_4096, vsi_8211, vsi_8212, vsi_8216, vsi_8217, vsi_8218, vsi_8220, vsi_8221, vsi_8222, vsi_8224, vsi_8225, vsi_8226, vsi_8230, vsi_8240, vsi_8249, vsi_8250, vsi_8482, vsi_21552, vsi_21553, vld_m1073741825, vld_m1, vld_1, vld_6, vld_42476, vld_4476739, vld_218951966, vld_1073741824, vlj_2, vlj_3, vlj_7, vlj_8, vlj_256, vlj_1099511627776, vlc_0, vlc_1, show Int32.ofNat 0 - 1 = -1 from rfl, vcml]
  | succ n ih =>
    intro s hn
    have h0 : ¬ Int32.ofNat n < 0 := by
      rw [vz_lt, v_ofn (by omega)]
      simp only [Int32.reduceToInt]
      omega
    have hA := (vfo_b (vby_lt a n)).1
    have hB := (vfo_b (vby_lt b n)).1
    rw [v_dec1]
    simp only [vc46_19, vb46_50, vc46_50, vw_icm1, vw_ic0, vw_ic1, vw_ic2, vw_ic3, vw_ic4, vw_ic5, vw_bi, vw_si, vw_lc, vw_ldc, vw_ldc2, vw_il0, vw_iln0, vw_is0, vw_isn0, vw_il1, vw_iln1, vw_is1, vw_isn1, vw_il2, vw_iln2, vw_is2, vw_isn2, vw_il3, vw_iln3, vw_is3, vw_isn3, vw_il4, vw_is4, vw_il5, vw_is5, vw_il6, vw_is6, vw_il7, vw_is7, vw_al0, vw_aln0, vw_as0, vw_asn0, vw_al1, vw_aln1, vw_as1, vw_asn1, vw_al2, vw_aln2, vw_as2, vw_asn2, vw_al3, vw_aln3, vw_as3, vw_asn3, vw_al4, vw_as4, vw_al5, vw_as5, vw_al6, vw_as6, vw_al7, vw_as7, vw_ll0, vw_lln0, vw_ls0, vw_lsn0, vw_ll1, vw_lln1, vw_ls1, vw_lsn1, vw_ll2, vw_lln2, vw_ls2, vw_lsn2, vw_ll3, vw_lln3, vw_ls3, vw_lsn3, vw_ll4, vw_ls4, vw_ll5, vw_ls5, vw_ll6, vw_ls6, vw_ll7, vw_iinc0, vw_iinc1, vw_iinc2, vw_iinc3, vw_iinc4, vw_iinc5, vw_iinc6, vw_iinc7, vw_iadd, vw_isub, vw_imul, vw_iand, vw_ior, vw_ixor, vw_ishl, vw_ishr, vw_iushr, vw_idiv, vw_irem, vw_ladd, vw_lsub, vw_lmul, vw_ldiv, vw_lcmp, vw_i2l, vw_l2i, vw_dupi, vw_dupr, vw_goto, vw_ic_eq, vw_if_eq, vw_ic_ne, vw_if_ne, vw_ic_lt, vw_if_lt, vw_ic_ge, vw_if_ge, vw_ic_gt, vw_if_gt, vw_ic_le, vw_if_le, vw_gf, vw_pf, vw_iaload, vw_baload, vw_iastore, vw_bastore, vw_alen, vw_gs, vw_aaload, vw_iret, vw_zret, vw_lret, vw_aret, vw_vret, vw_st0, vw_iv0, vw_st1, vw_iv1, vw_st2, vw_iv2, vw_st3, vw_iv3, vw_st4, vw_iv4, vw_st5, vw_iv5, vkt_v, vkt_n, vg_some, vgi_some, vgi_if, vps_some, vps_if, vcat_nil, vcat_i, vcat_r, vcat_l, vcl_n, vcl_i, vcl_r, vcl_l, Int.reduceToNat, Nat.reduceAdd, Nat.reduceLeDiff, true_and, and_true, true_or, or_true, Option.map_some, Int32.reduceToNatClampNeg, Int32.reduceLT, Int32.reduceLE, vq_1, vq_2, vq_3, vq_4, vq_5, vq_6, vq_7, vq_8, vq_9, vq_10, vq_11, vq_12, vq_13, vq_14, vq_15, vq_16, vq_17, vq_18, vq_19, vq_20, vq_m1, vq_00, Int32.reduceAdd, Int32.reduceSub, Int32.reduceMul, Nat.reduceLT, not_true_eq_false, not_false_eq_true, false_imp_iff, true_imp_iff, false_and, and_false, and_self, vbi_m3, vbi_m2, vbi_6, vbi_7, vbi_8, vbi_9, vbi_10, vbi_11, vbi_12, vbi_13, vbi_14, vbi_15, vbi_16, vbi_17, vbi_18, vbi_19, vbi_20, vbi_21, vbi_24, vbi_31, vbi_32, vbi_33, vbi_47, vbi_48, vbi_96, vbi_97, vbi_122, vbi_126, vsi_128, vsi_129, vsi_192, vsi_200, vsi_255, vsi_256, vsi_338, vsi_339, vsi_352, vsi_353, vsi_376, vsi_400, vsi_402, vsi_710, vsi_732, vsi_4096, vsi_8211, vsi_8212, vsi_8216, vsi_8217, vsi_8218, vsi_8220, vsi_8221, vsi_8222, vsi_8224, vsi_8225, vsi_8226, vsi_8230, vsi_8240, vsi_8249, vsi_8250, vsi_8482, vsi_21552, vsi_21553, vld_m1073741825, vld_m1, vld_1, vld_6, vld_42476, vld_4476739, vld_218951966, vld_1073741824, vlj_2, vlj_3, vlj_7, vlj_8, vlj_256, vlj_1099511627776, vlc_0, vlc_1, h0, Int32.not_lt.mp h0, m48 (show n < 4 by omega), m47 (show vfo (vby a n) < 2147483648 by omega) (show vfo (vby b n) < 2147483648 by omega), v_decm, vcml]
    rw [vb46_19, ih _ (show n ≤ 4 by omega)]
    by_cases hs : s = 0 <;> simp [hs]
theorem v_vic0 {a b : Nat} : (vic a b = 0 ↔ a = b) := by
  unfold vic
  split
  · simp; omega
  · split
    · simp [*]
    · simp [*]
theorem vrk_let (x : Int32) : (vlet x = 0 ∧ vrk x = 0) ∨ (vlet x = 1 ∧ 1 ≤ vrk x ∧ vrk x < 256) ∨ (vlet x = 2 ∧ 256 ≤ vrk x ∧ vrk x < 65536) ∨ (vlet x = 3 ∧ 65536 ≤ vrk x ∧ vrk x < 16777216) ∨ (vlet x = 4 ∧ 16777216 ≤ vrk x) := by
  have A0 := vfo_b (vby_lt x 0); have A1 := vfo_b (vby_lt x 1); have A2 := vfo_b (vby_lt x 2); have A3 := vfo_b (vby_lt x 3)
  unfold vlet vrk
  by_cases b3 : vby x 3 = 0
  · by_cases b2 : vby x 2 = 0
    · by_cases b1 : vby x 1 = 0
      · by_cases b0 : vby x 0 = 0
        · rw [if_pos b3, if_pos b2, if_pos b1, if_pos b0]; omega
        · rw [if_pos b3, if_pos b2, if_pos b1, if_neg b0]; omega
      · rw [if_pos b3, if_pos b2, if_neg b1]; omega
    · rw [if_pos b3, if_neg b2]; omega
  · rw [if_neg b3]; omega
theorem vic_same {d1 d2 r1 r2 : Nat} (h1 : d1 < d2 ↔ r1 < r2) (h2 : d1 = d2 ↔ r1 = r2) : vic d1 d2 = vic r1 r2 := by
  unfold vic
  by_cases g1 : d1 < d2
  · rw [if_pos g1, if_pos (h1.mp g1)]
  · by_cases g2 : d1 = d2
    · rw [if_neg g1, if_pos g2, if_neg (fun h => g1 (h1.mpr h)), if_pos (h2.mp g2)]
    · rw [if_neg g1, if_neg g2, if_neg (fun h => g1 (h1.mpr h)), if_neg (fun h => g2 (h2.mpr h))]
theorem vcml_s (a b : Int32) (n : Nat) : vcml a b (n + 1) 0 = vcml a b n (vic (vfo (vby a n)) (vfo (vby b n))) := by simp [vcml]
theorem vcml_ne (a b : Int32) {n d1 d2 : Nat} (h : d1 ≠ d2) : vcml a b n (vic d1 d2) = vic d1 d2 := by
  cases n with
  | zero => rfl
  | succ n => simp [vcml, v_vic0, h]
theorem vcml_4 (a b : Int32) : vcml a b 4 0 = vic (vrk a) (vrk b) := by
  have A0 := (vfo_b (vby_lt a 0)).1; have A1 := (vfo_b (vby_lt a 1)).1; have A2 := (vfo_b (vby_lt a 2)).1; have A3 := (vfo_b (vby_lt a 3)).1
  have B0 := (vfo_b (vby_lt b 0)).1; have B1 := (vfo_b (vby_lt b 1)).1; have B2 := (vfo_b (vby_lt b 2)).1; have B3 := (vfo_b (vby_lt b 3)).1
  unfold vrk
  rw [vcml_s]
  by_cases g3 : vfo (vby a 3) = vfo (vby b 3)
  · rw [v_vic0.mpr g3, vcml_s]
    by_cases g2 : vfo (vby a 2) = vfo (vby b 2)
    · rw [v_vic0.mpr g2, vcml_s]
      by_cases g1 : vfo (vby a 1) = vfo (vby b 1)
      · rw [v_vic0.mpr g1, vcml_s]
        show vic _ _ = _
        exact vic_same (by omega) (by omega)
      · rw [vcml_ne a b g1]
        exact vic_same (by omega) (by omega)
    · rw [vcml_ne a b g2]
      exact vic_same (by omega) (by omega)
  · rw [vcml_ne a b g3]
    exact vic_same (by omega) (by omega)
theorem vcml_low (a b : Int32) : ∀ (m n : Nat), m + n ≤ 4 → (∀ i, n ≤ i → i < n + m → vfo (vby a i) = vfo (vby b i)) → vcml a b n 0 = vcml a b (n + m) 0 := by
  intro m
  induction m with
  | zero => intro n _ _; rfl
  | succ m ih =>
    intro n hn h
    rw [ih n (by omega) (fun i h1 h2 => h i h1 (by omega)), show n + (m + 1) = (n + m) + 1 by omega, vcml_s, v_vic0.mpr (h (n + m) (by omega) (by omega))]
theorem v_cml (a b : Int32) : vcml a b (vlet a) (vic (vlet a) (vlet b)) = vic (vrk a) (vrk b) := by
  have ra := vrk_let a
  have rb := vrk_let b
  by_cases hpq : vlet a = vlet b
  · rw [v_vic0.mpr hpq]
    have la := vlet_le a
    obtain ⟨za, -⟩ := vlet_b a
    obtain ⟨zb, -⟩ := vlet_b b
    rw [vcml_low a b (4 - vlet a) (vlet a) (by omega) (fun i h1 h2 => by rw [za i (by omega) h1, zb i (by omega) (by omega)]), show vlet a + (4 - vlet a) = 4 by omega, vcml_4]
  · rw [vcml_ne a b hpq]
    exact vic_same (by omega) (by omega)
theorem m46 {a b : Int32} : vo X 46 [.int a, .int b] S post ↔ post (some (.int (vic (vrk a) (vrk b)))) S := by
  have la := vlet_le a
  have lb := vlet_le b
  simp only [vs46, vc46_0, vw_icm1, vw_ic0, vw_ic1, vw_ic2, vw_ic3, vw_ic4, vw_ic5, vw_bi, vw_si, vw_lc, vw_ldc, vw_ldc2, vw_il0, vw_iln0, vw_is0, vw_isn0, vw_il1, vw_iln1, vw_is1, vw_isn1, vw_il2, vw_iln2, vw_is2, vw_isn2, vw_il3, vw_iln3, vw_is3, vw_isn3, vw_il4, vw_is4, vw_il5, vw_is5, vw_il6, vw_is6, vw_il7, vw_is7, vw_al0, vw_aln0, vw_as0, vw_asn0, vw_al1, vw_aln1, vw_as1, vw_asn1, vw_al2, vw_aln2, vw_as2, vw_asn2, vw_al3, vw_aln3, vw_as3, vw_asn3, vw_al4, vw_as4, vw_al5, vw_as5, vw_al6, vw_as6, vw_al7, vw_as7, vw_ll0, vw_lln0, vw_ls0, vw_lsn0, vw_ll1, vw_lln1, vw_ls1, vw_lsn1, vw_ll2, vw_lln2, vw_ls2, vw_lsn2, vw_ll3, vw_lln3, vw_ls3, vw_lsn3, vw_ll4, vw_ls4, vw_ll5, vw_ls5, vw_ll6, vw_ls6, vw_ll7, vw_iinc0, vw_iinc1, vw_iinc2, vw_iinc3, vw_iinc4, vw_iinc5, vw_iinc6, vw_iinc7, vw_iadd, vw_isub, vw_imul, vw_iand, vw_ior, vw_ixor, vw_ishl, vw_ishr, vw_iushr, vw_idiv, vw_irem, vw_ladd, vw_lsub, vw_lmul, vw_ldiv, vw_lcmp, vw_i2l, vw_l2i, vw_dupi, vw_dupr, vw_goto, vw_ic_eq, vw_if_eq, vw_ic_ne, vw_if_ne, vw_ic_lt, vw_if_lt, vw_ic_ge, vw_if_ge, vw_ic_gt, vw_if_gt, vw_ic_le, vw_if_le, vw_gf, vw_pf, vw_iaload, vw_baload, vw_iastore, vw_bastore, vw_alen, vw_gs, vw_aaload, vw_iret, vw_zret, vw_lret, vw_aret, vw_vret, vw_st0, vw_iv0, vw_st1, vw_iv1, vw_st2, vw_iv2, vw_st3, vw_iv3, vw_st4, vw_iv4, vw_st5, vw_iv5, vkt_v, vkt_n, vg_some, vgi_some, vgi_if, vps_some, vps_if, vcat_nil, vcat_i, vcat_r, vcat_l, vcl_n, vcl_i, vcl_r, vcl_l, Int.reduceToNat, Nat.reduceAdd, Nat.reduceLeDiff, true_and, and_true, true_or, or_true, Option.map_some, Int32.reduceToNatClampNeg, Int32.reduceLT, Int32.reduceLE, vq_1, vq_2, vq_3, vq_4, vq_5, vq_6, vq_7, vq_8, vq_9, vq_10, vq_11, vq_12, vq_13, vq_14, vq_15, vq_16, vq_17, vq_18, vq_19, vq_20, vq_m1, vq_00, Int32.reduceAdd, Int32.reduceSub, Int32.reduceMul, Nat.reduceLT, not_true_eq_false, not_false_eq_true, false_imp_iff, true_imp_iff, false_and, and_false, and_self, vbi_m3, vbi_m2, vbi_6, vbi_7, vbi_8, vbi_9, vbi_10, vbi_11, vbi_12, vbi_13, vbi_14, vbi_15, vbi_16, vbi_17, vbi_18, vbi_19, vbi_20, vbi_21, vbi_24, vbi_31, vbi_32, vbi_33, vbi_47, vbi_48, vbi_96, vbi_97, vbi_122, vbi_126, vsi_128, vsi_129, vsi_192, vsi_200, vsi_255, vsi_256, vsi_338, vsi_339, vsi_352, vsi_353, vsi_376, vsi_400, vsi_402, vsi_710, vsi_732, vsi_4096, vsi_8211, vsi_8212, vsi_8216, vsi_8217, vsi_8218, vsi_8220, vsi_8221, vsi_8222, vsi_8224, vsi_8225, vsi_8226, vsi_8230, vsi_8240, vsi_8249, vsi_8250, vsi_8482, vsi_21552, vsi_21553, vld_m1073741825, vld_m1, vld_1, vld_6, vld_42476, vld_4476739, vld_218951966, vld_1073741824, vlj_2, vlj_3, vlj_7, vlj_8, vlj_256, vlj_1099511627776, vlc_0, vlc_1, m43, m47 (show vlet a < 2147483648 by omega) (show vlet b < 2147483648 by omega), l46 _ _ la, v_cml]
theorem l164 {x : Int32} {n : Nat} (hn : n ≤ 4) : ∀ (d i : Nat) (G : Prop) (y : Option Value), i + d = n → (vw X 164 vc164_17 [some (.int x), some (.int (Int32.ofNat n)), some (.int (vtf G)), some (.int (Int32.ofNat i)), y] [] S post ↔ post (some (.int (vtf (G ∧ ∀ j, i ≤ j → j < n → 33 ≤ vby x j ∧ vby x j ≤ 126)))) S) := by
  intro d
  induction d with
  | zero =>
    intro i G y hi
    have hi : i = n := by omega
    subst hi
    simp only [vc164_17, vb164_64, vc164_64, vw_icm1, vw_ic0, vw_ic1, vw_ic2, vw_ic3, vw_ic4, vw_ic5, vw_bi, vw_si, vw_lc, vw_ldc, vw_ldc2, vw_il0, vw_iln0, vw_is0, vw_isn0, vw_il1, vw_iln1, vw_is1, vw_isn1, vw_il2, vw_iln2, vw_is2, vw_isn2, vw_il3, vw_iln3, vw_is3, vw_isn3, vw_il4, vw_is4, vw_il5, vw_is5, vw_il6, vw_is6, vw_il7, vw_is7, vw_al0, vw_aln0, vw_as0, vw_asn0, vw_al1, vw_aln1, vw_as1, vw_asn1, vw_al2, vw_aln2, vw_as2, vw_asn2, vw_al3, vw_aln3, vw_as3, vw_asn3, vw_al4, vw_as4, vw_al5, vw_as5, vw_al6, vw_as6, vw_al7, vw_as7, vw_ll0, vw_lln0, vw_ls0, vw_lsn0, vw_ll1, vw_lln1, vw_ls1, vw_lsn1, vw_ll2, vw_lln2, vw_ls2, vw_lsn2, vw_ll3, vw_lln3, vw_ls3, vw_lsn3, vw_ll4, vw_ls4, vw_ll5, vw_ls5, vw_ll6, vw_ls6, vw_ll7, vw_iinc0, vw_iinc1, vw_iinc2, vw_iinc3, vw_iinc4, vw_iinc5, vw_iinc6, vw_iinc7, vw_iadd, vw_isub, vw_imul, vw_iand, vw_ior, vw_ixor, vw_ishl, vw_ishr, vw_iushr, vw_idiv, vw_irem, vw_ladd, vw_lsub, vw_lmul, vw_ldiv, vw_lcmp, vw_i2l, vw_l2i, vw_dupi, vw_dupr, vw_goto, vw_ic_eq, vw_if_eq, vw_ic_ne, vw_if_ne, vw_ic_lt, vw_if_lt, vw_ic_ge, vw_if_ge, vw_ic_gt, vw_if_gt, vw_ic_le, vw_if_le, vw_gf, vw_pf, vw_iaload, vw_baload, vw_iastore, vw_bastore, vw_alen, vw_gs, vw_aaload, vw_iret, vw_zret, vw_lret, vw_aret, vw_vret, vw_st0, vw_iv0, vw_st1, vw_iv1, vw_st2, vw_iv2, vw_st3, vw_iv3, vw_st4, vw_iv4, vw_st5, vw_iv5, vkt_v, vkt_n, vg_some, vgi_some, vgi_if, vps_some, vps_if, vcat_nil, vcat_i, vcat_r, vcat_l, vcl_n, vcl_i, vcl_r, vcl_l, Int.reduceToNat, Nat.reduceAdd, Nat.reduceLeDiff, true_and, and_true, true_or, or_true, Option.map_some, Int32.reduceToNatClampNeg, Int32.reduceLT, Int32.reduceLE, vq_1, vq_2, vq_3, vq_4, vq_5, vq_6, vq_7, vq_8, vq_9, vq_10, vq_11, vq_12, vq_13, vq_14, vq_15, vq_16, vq_17, vq_18, vq_19, vq_20, vq_m1, vq_00, Int32.reduceAdd, Int32.reduceSub, Int32.reduceMul, Nat.reduceLT, not_true_eq_false, not_false_eq_true, false_imp_iff, true_imp_iff, false_and, and_false, and_self, vbi_m3, vbi_m2, vbi_6, vbi_7, vbi_8, vbi_9, vbi_10, vbi_11, vbi_12, vbi_13, vbi_14, vbi_15, vbi_16, vbi_17, vbi_18, vbi_19, vbi_20, vbi_21, vbi_24, vbi_31, vbi_32, vbi_33, vbi_47, vbi_48, vbi_96, vbi_97, vbi_122, vbi_126, vsi_128, vsi_129, vsi_192, vsi_200, vsi_255, vsi_256, vsi_338, vsi_339, vsi_352, vsi_353, vsi_376, vsi_400, vsi_402, vsi_710, vsi_732, vsi_4096, vsi_8211, vsi_8212, vsi_8216, vsi_8217, vsi_8218, vsi_8220, vsi_8221, vsi_8222, vsi_8224, vsi_8225, vsi_8226, vsi_8230, vsi_8240, vsi_8249, vsi_8250, vsi_8482, vsi_21552, vsi_21553, vld_m1073741825, vld_m1, vld_1, vld_6, vld_42476, vld_4476739, vld_218951966, vld_1073741824, vlj_2, vlj_3, vlj_7, vlj_8, vlj_256, vlj_1099511627776, vlc_0, vlc_1, v_oflt (show i < 2147483648 by omega) (show i < 2147483648 by omega), v_ofle (show i < 2147483648 by omega) (show i < 2147483648 by omega), Nat.lt_irrefl, Nat.le_refl, vtf_01]
    rw [vtf_c (p := G ∧ ∀ j, i ≤ j → j < i → 33 ≤ vby x j ∧ vby x j ≤ 126) (q := G) ⟨fun h => h.1, fun h => ⟨h, fun j h1 h2 => by omega⟩⟩]
  | succ d ih =>
    intro i G y hi
    obtain ⟨a1, a2, a3, a4⟩ := v_33 (x := x) (i := i)
    have e1 : (0 : Int32) = vtf False := (vtf_f (fun h => h)).symm
    have e2 : (1 : Int32) = vtf True := (vtf_t trivial).symm
    have hgo : ∀ (G' : Prop) (y : Option Value), vw X 164 (v_B 164 17) [some (.int x), some (.int (Int32.ofNat n)), some (.int (vtf G')), some (.int (Int32.ofNat (i + 1))), y] [] S post ↔ post (some (.int (vtf (G' ∧ ∀ j, i + 1 ≤ j → j < n → 33 ≤ vby x j ∧ vby x j ≤ 126)))) S := fun G' y => by rw [vb164_17]; exact ih (i + 1) G' y (by omega)
    have hg0 := hgo False; have hg1 := hgo True
    rw [← e1] at hg0
    rw [← e2] at hg1
    simp only [vc164_17, vb164_56, vc164_56, vb164_57, vc164_57, vw_icm1, vw_ic0, vw_ic1, vw_ic2, vw_ic3, vw_ic4, vw_ic5, vw_bi, vw_si, vw_lc, vw_ldc, vw_ldc2, vw_il0, vw_iln0, vw_is0, vw_isn0, vw_il1, vw_iln1, vw_is1, vw_isn1, vw_il2, vw_iln2, vw_is2, vw_isn2, vw_il3, vw_iln3, vw_is3, vw_isn3, vw_il4, vw_is4, vw_il5, vw_is5, vw_il6, vw_is6, vw_il7, vw_is7, vw_al0, vw_aln0, vw_as0, vw_asn0, vw_al1, vw_aln1, vw_as1, vw_asn1, vw_al2, vw_aln2, vw_as2, vw_asn2, vw_al3, vw_aln3, vw_as3, vw_asn3, vw_al4, vw_as4, vw_al5, vw_as5, vw_al6, vw_as6, vw_al7, vw_as7, vw_ll0, vw_lln0, vw_ls0, vw_lsn0, vw_ll1, vw_lln1, vw_ls1, vw_lsn1, vw_ll2, vw_lln2, vw_ls2, vw_lsn2, vw_ll3, vw_lln3, vw_ls3, vw_lsn3, vw_ll4, vw_ls4, vw_ll5, vw_ls5, vw_ll6, vw_ls6, vw_ll7, vw_iinc0, vw_iinc1, vw_iinc2, vw_iinc3, vw_iinc4, vw_iinc5, vw_iinc6, vw_iinc7, vw_iadd, vw_isub, vw_imul, vw_iand, vw_ior, vw_ixor, vw_ishl, vw_ishr, vw_iushr, vw_idiv, vw_irem, vw_ladd, vw_lsub, vw_lmul, vw_ldiv, vw_lcmp, vw_i2l, vw_l2i, vw_dupi, vw_dupr, vw_goto, vw_ic_eq, vw_if_eq, vw_ic_ne, vw_if_ne, vw_ic_lt, vw_if_lt, vw_ic_ge, vw_if_ge, vw_ic_gt, vw_if_gt, vw_ic_le, vw_if_le, vw_gf, vw_pf, vw_iaload, vw_baload, vw_iastore, vw_bastore, vw_alen, vw_gs, vw_aaload, vw_iret, vw_zret, vw_lret, vw_aret, vw_vret, vw_st0, vw_iv0, vw_st1, vw_iv1, vw_st2, vw_iv2, vw_st3, vw_iv3, vw_st4, vw_iv4, vw_st5, vw_iv5, vkt_v, vkt_n, vg_some, vgi_some, vgi_if, vps_some, vps_if, vcat_nil, vcat_i, vcat_r, vcat_l, vcl_n, vcl_i, vcl_r, vcl_l, Int.reduceToNat, Nat.reduceAdd, Nat.reduceLeDiff, true_and, and_true, true_or, or_true, Option.map_some, Int32.reduceToNatClampNeg, Int32.reduceLT, Int32.reduceLE, vq_1, vq_2, vq_3, vq_4, vq_5, vq_6, vq_7, vq_8, vq_9, vq_10, vq_11, vq_12, vq_13, vq_14, vq_15, vq_16, vq_17, vq_18, vq_19, vq_20, vq_m1, vq_00, Int32.reduceAdd, Int32.reduceSub, Int32.reduceMul, Nat.reduceLT, not_true_eq_false, not_false_eq_true, false_imp_iff, true_imp_iff, false_and, and_false, and_self, vbi_m3, vbi_m2, vbi_6, vbi_7, vbi_8, vbi_9, vbi_10, vbi_11, vbi_12, vbi_13, vbi_14, vbi_15, vbi_16, vbi_17, vbi_18, vbi_19, vbi_20, vbi_21, vbi_24, vbi_31, vbi_32, vbi_33, vbi_47, vbi_48, vbi_96, vbi_97, vbi_122, vbi_126, vsi_128, vsi_129, vsi_192, vsi_200, vsi_255, vsi_256, vsi_338, vsi_339, vsi_352, vsi_353, vsi_376, vsi_400, vsi_402, vsi_710, vsi_732, vsi_4096, vsi_8211, vsi_8212, vsi_8216, vsi_8217, vsi_8218, vsi_8220, vsi_8221, vsi_8222, vsi_8224, vsi_8225, vsi_8226, vsi_8230, vsi_8240, vsi_8249, vsi_8250, vsi_8482, vsi_21552, vsi_21553, vld_m1073741825, vld_m1, vld_1, vld_6, vld_42476, vld_4476739, vld_218951966, vld_1073741824, vlj_2, vlj_3, vlj_7, vlj_8, vlj_256, vlj_1099511627776, vlc_0, vlc_1, vby_shr x (show i < 4 by omega), v_oflt (show i < 2147483648 by omega) (show n < 2147483648 by omega), v_ofle (show n < 2147483648 by omega) (show i < 2147483648 by omega), show ¬ n ≤ i by omega, show i < n by omega, v_inc, a1, a2, a3, a4, vtf_0, hg0, hg1]
    by_cases hG : G
    · by_cases h1 : 33 ≤ vby x i
      · by_cases h2 : vby x i ≤ 126
        · have e : (G ∧ ∀ j, i ≤ j → j < n → 33 ≤ vby x j ∧ vby x j ≤ 126) ↔ (∀ j, i + 1 ≤ j → j < n → 33 ≤ vby x j ∧ vby x j ≤ 126) := by
            constructor
            · exact fun h j g1 g2 => h.2 j (by omega) g2
            · refine fun h => ⟨hG, fun j g1 g2 => ?_⟩
              by_cases hj : j = i
              · rw [hj]; exact ⟨h1, h2⟩
              · exact h j (by omega) g2
          rw [vtf_c e]
          simp [hG, h1, h2, show ¬ vby x i < 33 by omega, show ¬ 126 < vby x i by omega]
        · have e : ¬ (G ∧ ∀ j, i ≤ j → j < n → 33 ≤ vby x j ∧ vby x j ≤ 126) := fun h => h2 (h.2 i (Nat.le_refl _) (by omega)).2
          rw [vtf_f e]
          simp [hG, h1, h2, show ¬ vby x i < 33 by omega, show 126 < vby x i by omega, vtf_f (fun h : False => h)]
      · have e : ¬ (G ∧ ∀ j, i ≤ j → j < n → 33 ≤ vby x j ∧ vby x j ≤ 126) := fun h => h1 (h.2 i (Nat.le_refl _) (by omega)).1
        rw [vtf_f e]
        simp [hG, h1, show vby x i < 33 by omega, vtf_f (fun h : False => h)]
    · have e : ¬ (G ∧ ∀ j, i ≤ j → j < n → 33 ≤ vby x j ∧ vby x j ≤ 126) := fun h => hG h.1
      rw [vtf_f e]
      simp [hG, vtf_f (fun h : False => h)]
theorem m164 {x : Int32} : vo X 164 [.int x] S post ↔ post (some (.int (vtf (vprop x)))) S := by
  have hn := vlet_le x
  have h0 : (Int32.ofNat (vlet x) ≤ 0 ↔ vlet x ≤ 0) ∧ (0 < Int32.ofNat (vlet x) ↔ 0 < vlet x) := by
    simp only [vz_lt, vz_le, v_ofn (show vlet x < 2147483648 by omega), Int32.reduceToInt]
    omega
  have e1 : (0 : Int32) = vtf False := (vtf_f (fun h => h)).symm
  have e2 : (1 : Int32) = vtf True := (vtf_t trivial).symm
  have hg : ∀ (G : Prop), vw X 164 vc164_17 [some (.int x), some (.int (Int32.ofNat (vlet x))), some (.int (vtf G)), some (.int 0), none] [] S post ↔ post (some (.int (vtf (G ∧ ∀ j, 0 ≤ j → j < vlet x → 33 ≤ vby x j ∧ vby x j ≤ 126)))) S := fun G => l164 hn (vlet x) 0 G none (by omega)
  have hg0 := hg False; have hg1 := hg True
  rw [← e1] at hg0
  rw [← e2] at hg1
  simp only [vs164, vc164_0, vb164_13, vc164_13, vb164_14, vc164_14, vw_icm1, vw_ic0, vw_ic1, vw_ic2, vw_ic3, vw_ic4, vw_ic5, vw_bi, vw_si, vw_lc, vw_ldc, vw_ldc2, vw_il0, vw_iln0, vw_is0, vw_isn0, vw_il1, vw_iln1, vw_is1, vw_isn1, vw_il2, vw_iln2, vw_is2, vw_isn2, vw_il3, vw_iln3, vw_is3, vw_isn3, vw_il4, vw_is4, vw_il5, vw_is5, vw_il6, vw_is6, vw_il7, vw_is7, vw_al0, vw_aln0, vw_as0, vw_asn0, vw_al1, vw_aln1, vw_as1, vw_asn1, vw_al2, vw_aln2, vw_as2, vw_asn2, vw_al3, vw_aln3, vw_as3, vw_asn3, vw_al4, vw_as4, vw_al5, vw_as5, vw_al6, vw_as6, vw_al7, vw_as7, vw_ll0, vw_lln0, vw_ls0, vw_lsn0, vw_ll1, vw_lln1, vw_ls1, vw_lsn1, vw_ll2, vw_lln2, vw_ls2, vw_lsn2, vw_ll3, vw_lln3, vw_ls3, vw_lsn3, vw_ll4, vw_ls4, vw_ll5, vw_ls5, vw_ll6, vw_ls6, vw_ll7, vw_iinc0, vw_iinc1, vw_iinc2, vw_iinc3, vw_iinc4, vw_iinc5, vw_iinc6, vw_iinc7, vw_iadd, vw_isub, vw_imul, vw_iand, vw_ior, vw_ixor, vw_ishl, vw_ishr, vw_iushr, vw_idiv, vw_irem, vw_ladd, vw_lsub, vw_lmul, vw_ldiv, vw_lcmp, vw_i2l, vw_l2i, vw_dupi, vw_dupr, vw_goto, vw_ic_eq, vw_if_eq, vw_ic_ne, vw_if_ne, vw_ic_lt, vw_if_lt, vw_ic_ge, vw_if_ge, vw_ic_gt, vw_if_gt, vw_ic_le, vw_if_le, vw_gf, vw_pf, vw_iaload, vw_baload, vw_iastore, vw_bastore, vw_alen, vw_gs, vw_aaload, vw_iret, vw_zret, vw_lret, vw_aret, vw_vret, vw_st0, vw_iv0, vw_st1, vw_iv1, vw_st2, vw_iv2, vw_st3, vw_iv3, vw_st4, vw_iv4, vw_st5, vw_iv5, vkt_v, vkt_n, vg_some, vgi_some, vgi_if, vps_some, vps_if, vcat_nil, vcat_i, vcat_r, vcat_l, vcl_n, vcl_i, vcl_r, vcl_l, Int.reduceToNat, Nat.reduceAdd, Nat.reduceLeDiff, true_and, and_true, true_or, or_true, Option.map_some, Int32.reduceToNatClampNeg, Int32.reduceLT, Int32.reduceLE, vq_1, vq_2, vq_3, vq_4, vq_5, vq_6, vq_7, vq_8, vq_9, vq_10, vq_11, vq_12, vq_13, vq_14, vq_15, vq_16, vq_17, vq_18, vq_19, vq_20, vq_m1, vq_00, Int32.reduceAdd, Int32.reduceSub, Int32.reduceMul, Nat.reduceLT, not_true_eq_false, not_false_eq_true, false_imp_iff, true_imp_iff, false_and, and_false, and_self, vbi_m3, vbi_m2, vbi_6, vbi_7, vbi_8, vbi_9, vbi_10, vbi_11, vbi_12, vbi_13, vbi_14, vbi_15, vbi_16, vbi_17, vbi_18, vbi_19, vbi_20, vbi_21, vbi_24, vbi_31, vbi_32, vbi_33, vbi_47, vbi_48, vbi_96, vbi_97, vbi_122, vbi_126, vsi_128, vsi_129, vsi_192, vsi_200, vsi_255, vsi_256, vsi_338, vsi_339, vsi_352, vsi_353, vsi_376, vsi_400, vsi_402, vsi_710, vsi_732, vsi_4096, vsi_8211, vsi_8212, vsi_8216, vsi_8217, vsi_8218, vsi_8220, vsi_8221, vsi_8222, vsi_8224, vsi_8225, vsi_8226, vsi_8230, vsi_8240, vsi_8249, vsi_8250, vsi_8482, vsi_21552, vsi_21553, vld_m1073741825, vld_m1, vld_1, vld_6, vld_42476, vld_4476739, vld_218951966, vld_1073741824, vlj_2, vlj_3, vlj_7, vlj_8, vlj_256, vlj_1099511627776, vlc_0, vlc_1, m165, h0.1, h0.2, hg0, hg1]
  by_cases h : 0 < vlet x
  · rw [vtf_c (p := vprop x) (q := True ∧ ∀ j, 0 ≤ j → j < vlet x → 33 ≤ vby x j ∧ vby x j ≤ 126) ⟨fun h => ⟨trivial, fun j _ hj => h.2 j hj⟩, fun g => ⟨h, fun j hj => g.2 j (Nat.zero_le _) hj⟩⟩]
    simp [h, show ¬ vlet x ≤ 0 by omega]
  · have e : ¬ vprop x := fun g => h g.1
    rw [vtf_f e]
    simp [h, show vlet x ≤ 0 by omega, vtf_f (fun h : False => h)]
end V68
