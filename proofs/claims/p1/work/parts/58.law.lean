/-! The law over the small machine: its start, its loop. -/
section VL
variable {X : vi_Ex} {k : Nat} {cs : List vi_En} {ls : vi_Ls} {st : List Value} {S : vi_Me} {post : Option Value → vi_Me → Prop} {pc a b i : Nat} {z : Int}
theorem vw_new (h : S.1.length < 900) : vw X k ((pc, .new i, a, b, z) :: cs) ls st S post ↔ vw X k cs ls (.ref S.1.length :: st) (S.1 ++ [.inr (.inl (a, v_nf a))], vi_row S.2 S.1.length (fun _ => 0)) post := vw_go (by simp [vi_stp, h, vi_on])
theorem vw_ip0 {q : Nat} (ha : ¬ a = vi_O) (h : vi_is S q z.toNat = true) (h2 : vcat st ≤ 8) : vw X k ((pc, .invokespecial i, a, 0, z) :: cs) ls (.ref q :: st) S post ↔ vo X a [.ref q] S (vkt X k cs ls st post) := vw_call (by
  unfold vcat at h2
  simp [vi_stp, vi_calr, h, h2, ha])
theorem vw_sw {d lo hi : Int} {offs : Array Int} {x : Int32} {o : Int} (h1 : ¬ (x.toInt < lo ∨ hi < x.toInt)) (h2 : offs[(x.toInt - lo).toNat]? = some o) : vw X k ((pc, .tableswitch d lo hi offs, a, b, z) :: cs) ls (.int x :: st) S post ↔ vw X k (v_B k ((pc : Int) + o).toNat) ls st S post := vw_jump (by simp only [vi_stp, if_neg h1, h2])
theorem vw_sx {d lo hi : Int} {offs : Array Int} {x : Int32} (h1 : x.toInt < lo ∨ hi < x.toInt) : vw X k ((pc, .tableswitch d lo hi offs, a, b, z) :: cs) ls (.int x :: st) S post ↔ vw X k (v_B k ((pc : Int) + d).toNat) ls st S post := vw_jump (by simp only [vi_stp, if_pos h1])
end VL
theorem v_init {X : vi_Ex} {post : Option Value → vi_Me → Prop} : vo X 0 [.ref 0] v_S1 post ↔ post none v_S2 := by
  refine vo_iff ⟨by decide, 300, none, v_S2, ?_, rfl, rfl⟩
  exact vi_R_X _ _ _ _ _ _ _ v_run0_ok
theorem v_init2 {X : vi_Ex} {post : Option Value → vi_Me → Prop} : vo X 149 [.ref 54] v_S3 post ↔ post none v_S4 := by
  refine vo_iff ⟨by decide, 300, none, v_S4, ?_, rfl, rfl⟩
  exact vi_R_X _ _ _ _ _ _ _ v_run1_ok
theorem v_law_start {X : vi_Ex} {post : Option Value → vi_Me → Prop} : vo X 231 [.ref 998] ([], fun _ _ => 0) post ↔ vw X 231 vc231_18 [some (.ref 998), some (.ref 0), some (.ref 54), some (.int 0)] [] (v_sh, v_M0) post := by
  rw [vs231, vc231_0, vw_new (by decide), vw_dupr, vw_ip0 (by decide) (by decide) (by decide)]
  show vo X 0 [.ref 0] v_S1 _ ↔ _
  rw [v_init, vkt_n, vw_asn1, vw_new (by rw [v_S2_len]; decide), v_S2_len, vw_dupr]
  show vw X 231 _ _ _ v_S3 _ ↔ _
  rw [vw_ip0 (by decide) (by decide +kernel) (by decide), v_init2, vkt_n, v_S4_eq]
  simp only [vw_icm1, vw_ic0, vw_ic1, vw_ic2, vw_ic3, vw_ic4, vw_ic5, vw_bi, vw_si, vw_lc, vw_ldc, vw_ldc2, vw_il0, vw_iln0, vw_is0, vw_isn0, vw_il1, vw_iln1, vw_is1, vw_isn1, vw_il2, vw_iln2, vw_is2, vw_isn2, vw_il3, vw_iln3, vw_is3, vw_isn3, vw_il4, vw_is4, vw_il5, vw_is5, vw_il6, vw_is6, vw_il7, vw_is7, vw_al0, vw_aln0, vw_as0, vw_asn0, vw_al1, vw_aln1, vw_as1, vw_asn1, vw_al2, vw_aln2, vw_as2, vw_asn2, vw_al3, vw_aln3, vw_as3, vw_asn3, vw_al4, vw_as4, vw_al5, vw_as5, vw_al6, vw_as6, vw_al7, vw_as7, vw_ll0, vw_lln0, vw_ls0, vw_lsn0, vw_ll1, vw_lln1, vw_ls1, vw_lsn1, vw_ll2, vw_lln2, vw_ls2, vw_lsn2, vw_ll3, vw_lln3, vw_ls3, vw_lsn3, vw_ll4, vw_ls4, vw_ll5, vw_ls5, vw_ll6, vw_ls6, vw_ll7, vw_iinc0, vw_iinc1, vw_iinc2, vw_iinc3, vw_iinc4, vw_iinc5, vw_iinc6, vw_iinc7, vw_iadd, vw_isub, vw_imul, vw_iand, vw_ior, vw_ixor, vw_ishl, vw_ishr, vw_iushr, vw_idiv, vw_irem, vw_ladd, vw_lsub, vw_lmul, vw_ldiv, vw_lcmp, vw_i2l, vw_l2i, vw_dupi, vw_dupr, vw_goto, vw_ic_eq, vw_if_eq, vw_ic_ne, vw_if_ne, vw_ic_lt, vw_if_lt, vw_ic_ge, vw_if_ge, vw_ic_gt, vw_if_gt, vw_ic_le, vw_if_le, vw_gf, vw_pf, vw_iaload, vw_baload, vw_iastore, vw_bastore, vw_alen, vw_gs, vw_aaload, vw_iret, vw_zret, vw_lret, vw_aret, vw_vret, vw_st0, vw_iv0, vw_st1, vw_iv1, vw_st2, vw_iv2, vw_st3, vw_iv3, vw_st4, vw_iv4, vw_st5, vw_iv5, vkt_v, vkt_n, vg_some, vgi_some, vgi_if, vps_some, vps_if, vcat_nil, vcat_i, vcat_r, vcat_l, vcl_n, vcl_i, vcl_r, vcl_l, Int.reduceToNat, Nat.reduceAdd, Nat.reduceLeDiff, true_and, and_true, true_or, or_true, Option.map_some, Int32.reduceToNatClampNeg, Int32.reduceLT, Int32.reduceLE, vq_1, vq_2, vq_3, vq_4, vq_5, vq_6, vq_7, vq_8, vq_9, vq_10, vq_11, vq_12, vq_13, vq_14, vq_15, vq_16, vq_17, vq_18, vq_19, vq_20, vq_m1, vq_00, Int32.reduceAdd, Int32.reduceSub, Int32.reduceMul, Nat.reduceLT, not_true_eq_false, not_false_eq_true, false_imp_iff, true_imp_iff, false_and, and_false, and_self]
  exact Iff.rfl
