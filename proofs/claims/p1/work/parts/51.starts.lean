/-! A method's start, by its descriptor. -/
theorem vs0 {X : vi_Ex} {r : Nat} {S : vi_Me} {post : Option Value → vi_Me → Prop} : vo X 0 [.ref r] S post ↔ vw X 0 vc0_0 [some (.ref r)] [] S post := by
  unfold vo
  rw [vb0_0, vl0]
  exact ⟨fun h => h.2, fun h => ⟨show (1 : Nat) ≤ 1 by decide, h⟩⟩
theorem vs1 {X : vi_Ex} {r : Nat} {S : vi_Me} {post : Option Value → vi_Me → Prop} : vo X 1 [.ref r] S post ↔ vw X 1 vc1_0 [some (.ref r)] [] S post := by
  unfold vo
  rw [vb1_0, vl1]
  exact ⟨fun h => h.2, fun h => ⟨show (1 : Nat) ≤ 1 by decide, h⟩⟩
theorem vs2 {X : vi_Ex} {r : Nat} {x0 : Nat} {S : vi_Me} {post : Option Value → vi_Me → Prop} : vo X 2 [.ref r, .ref x0] S post ↔ vw X 2 vc2_0 [some (.ref r), some (.ref x0)] [] S post := by
  unfold vo
  rw [vb2_0, vl2]
  exact ⟨fun h => h.2, fun h => ⟨show (2 : Nat) ≤ 2 by decide, h⟩⟩
theorem vs3 {X : vi_Ex} {r : Nat} {S : vi_Me} {post : Option Value → vi_Me → Prop} : vo X 3 [.ref r] S post ↔ vw X 3 vc3_0 [some (.ref r)] [] S post := by
  unfold vo
  rw [vb3_0, vl3]
  exact ⟨fun h => h.2, fun h => ⟨show (1 : Nat) ≤ 1 by decide, h⟩⟩
theorem vs4 {X : vi_Ex} {r : Nat} {x0 : Nat} {S : vi_Me} {post : Option Value → vi_Me → Prop} : vo X 4 [.ref r, .ref x0] S post ↔ vw X 4 vc4_0 [some (.ref r), some (.ref x0)] [] S post := by
  unfold vo
  rw [vb4_0, vl4]
  exact ⟨fun h => h.2, fun h => ⟨show (2 : Nat) ≤ 2 by decide, h⟩⟩
theorem vs5 {X : vi_Ex} {r : Nat} {x0 : Nat} {x1 : Nat} {x2 : Nat} {S : vi_Me} {post : Option Value → vi_Me → Prop} : vo X 5 [.ref r, .ref x0, .ref x1, .ref x2] S post ↔ vw X 5 vc5_0 [some (.ref r), some (.ref x0), some (.ref x1), some (.ref x2)] [] S post := by
  unfold vo
  rw [vb5_0, vl5]
  exact ⟨fun h => h.2, fun h => ⟨show (4 : Nat) ≤ 4 by decide, h⟩⟩
theorem vs6 {X : vi_Ex} {r : Nat} {S : vi_Me} {post : Option Value → vi_Me → Prop} : vo X 6 [.ref r] S post ↔ vw X 6 vc6_0 [some (.ref r), none] [] S post := by
  unfold vo
  rw [vb6_0, vl6]
  exact ⟨fun h => h.2, fun h => ⟨show (1 : Nat) ≤ 2 by decide, h⟩⟩
theorem vs7 {X : vi_Ex} {r : Nat} {S : vi_Me} {post : Option Value → vi_Me → Prop} : vo X 7 [.ref r] S post ↔ vw X 7 vc7_0 [some (.ref r)] [] S post := by
  unfold vo
  rw [vb7_0, vl7]
  exact ⟨fun h => h.2, fun h => ⟨show (1 : Nat) ≤ 1 by decide, h⟩⟩
theorem vs8 {X : vi_Ex} {r : Nat} {x0 : Nat} {x1 : Int32} {S : vi_Me} {post : Option Value → vi_Me → Prop} : vo X 8 [.ref r, .ref x0, .int x1] S post ↔ vw X 8 vc8_0 [some (.ref r), some (.ref x0), some (.int x1)] [] S post := by
  unfold vo
  rw [vb8_0, vl8]
  exact ⟨fun h => h.2, fun h => ⟨show (3 : Nat) ≤ 3 by decide, h⟩⟩
theorem vs9 {X : vi_Ex} {r : Nat} {x0 : Nat} {S : vi_Me} {post : Option Value → vi_Me → Prop} : vo X 9 [.ref r, .ref x0] S post ↔ vw X 9 vc9_0 [some (.ref r), some (.ref x0)] [] S post := by
  unfold vo
  rw [vb9_0, vl9]
  exact ⟨fun h => h.2, fun h => ⟨show (2 : Nat) ≤ 2 by decide, h⟩⟩
theorem vs10 {X : vi_Ex} {r : Nat} {S : vi_Me} {post : Option Value → vi_Me → Prop} : vo X 10 [.ref r] S post ↔ vw X 10 vc10_0 [some (.ref r)] [] S post := by
  unfold vo
  rw [vb10_0, vl10]
  exact ⟨fun h => h.2, fun h => ⟨show (1 : Nat) ≤ 1 by decide, h⟩⟩
theorem vs11 {X : vi_Ex} {r : Nat} {S : vi_Me} {post : Option Value → vi_Me → Prop} : vo X 11 [.ref r] S post ↔ vw X 11 vc11_0 [some (.ref r)] [] S post := by
  unfold vo
  rw [vb11_0, vl11]
  exact ⟨fun h => h.2, fun h => ⟨show (1 : Nat) ≤ 1 by decide, h⟩⟩
theorem vs12 {X : vi_Ex} {r : Nat} {x0 : Int32} {x1 : Int32} {x2 : Int32} {x3 : Int32} {x4 : Int32} {S : vi_Me} {post : Option Value → vi_Me → Prop} : vo X 12 [.ref r, .int x0, .int x1, .int x2, .int x3, .int x4] S post ↔ vw X 12 vc12_0 [some (.ref r), some (.int x0), some (.int x1), some (.int x2), some (.int x3), some (.int x4)] [] S post := by
  unfold vo
  rw [vb12_0, vl12]
  exact ⟨fun h => h.2, fun h => ⟨show (6 : Nat) ≤ 6 by decide, h⟩⟩
theorem vs13 {X : vi_Ex} {r : Nat} {S : vi_Me} {post : Option Value → vi_Me → Prop} : vo X 13 [.ref r] S post ↔ vw X 13 vc13_0 [some (.ref r)] [] S post := by
  unfold vo
  rw [vb13_0, vl13]
  exact ⟨fun h => h.2, fun h => ⟨show (1 : Nat) ≤ 1 by decide, h⟩⟩
theorem vs14 {X : vi_Ex} {r : Nat} {x0 : Int32} {S : vi_Me} {post : Option Value → vi_Me → Prop} : vo X 14 [.ref r, .int x0] S post ↔ vw X 14 vc14_0 [some (.ref r), some (.int x0)] [] S post := by
  unfold vo
  rw [vb14_0, vl14]
  exact ⟨fun h => h.2, fun h => ⟨show (2 : Nat) ≤ 2 by decide, h⟩⟩
theorem vs15 {X : vi_Ex} {r : Nat} {S : vi_Me} {post : Option Value → vi_Me → Prop} : vo X 15 [.ref r] S post ↔ vw X 15 vc15_0 [some (.ref r), none] [] S post := by
  unfold vo
  rw [vb15_0, vl15]
  exact ⟨fun h => h.2, fun h => ⟨show (1 : Nat) ≤ 2 by decide, h⟩⟩
theorem vs16 {X : vi_Ex} {r : Nat} {S : vi_Me} {post : Option Value → vi_Me → Prop} : vo X 16 [.ref r] S post ↔ vw X 16 vc16_0 [some (.ref r)] [] S post := by
  unfold vo
  rw [vb16_0, vl16]
  exact ⟨fun h => h.2, fun h => ⟨show (1 : Nat) ≤ 1 by decide, h⟩⟩
theorem vs17 {X : vi_Ex} {r : Nat} {S : vi_Me} {post : Option Value → vi_Me → Prop} : vo X 17 [.ref r] S post ↔ vw X 17 vc17_0 [some (.ref r), none] [] S post := by
  unfold vo
  rw [vb17_0, vl17]
  exact ⟨fun h => h.2, fun h => ⟨show (1 : Nat) ≤ 2 by decide, h⟩⟩
theorem vs18 {X : vi_Ex} {r : Nat} {S : vi_Me} {post : Option Value → vi_Me → Prop} : vo X 18 [.ref r] S post ↔ vw X 18 vc18_0 [some (.ref r)] [] S post := by
  unfold vo
  rw [vb18_0, vl18]
  exact ⟨fun h => h.2, fun h => ⟨show (1 : Nat) ≤ 1 by decide, h⟩⟩
theorem vs19 {X : vi_Ex} {r : Nat} {S : vi_Me} {post : Option Value → vi_Me → Prop} : vo X 19 [.ref r] S post ↔ vw X 19 vc19_0 [some (.ref r), none, none] [] S post := by
  unfold vo
  rw [vb19_0, vl19]
  exact ⟨fun h => h.2, fun h => ⟨show (1 : Nat) ≤ 3 by decide, h⟩⟩
theorem vs20 {X : vi_Ex} {x0 : Int32} {x1 : Int32} {S : vi_Me} {post : Option Value → vi_Me → Prop} : vo X 20 [.int x0, .int x1] S post ↔ vw X 20 vc20_0 [some (.int x0), some (.int x1)] [] S post := by
  unfold vo
  rw [vb20_0, vl20]
  exact ⟨fun h => h.2, fun h => ⟨show (2 : Nat) ≤ 2 by decide, h⟩⟩
theorem vs21 {X : vi_Ex} {r : Nat} {x0 : Int32} {S : vi_Me} {post : Option Value → vi_Me → Prop} : vo X 21 [.ref r, .int x0] S post ↔ vw X 21 vc21_0 [some (.ref r), some (.int x0)] [] S post := by
  unfold vo
  rw [vb21_0, vl21]
  exact ⟨fun h => h.2, fun h => ⟨show (2 : Nat) ≤ 2 by decide, h⟩⟩
theorem vs22 {X : vi_Ex} {r : Nat} {x0 : Int32} {S : vi_Me} {post : Option Value → vi_Me → Prop} : vo X 22 [.ref r, .int x0] S post ↔ vw X 22 vc22_0 [some (.ref r), some (.int x0)] [] S post := by
  unfold vo
  rw [vb22_0, vl22]
  exact ⟨fun h => h.2, fun h => ⟨show (2 : Nat) ≤ 2 by decide, h⟩⟩
theorem vs23 {X : vi_Ex} {r : Nat} {x0 : Int32} {S : vi_Me} {post : Option Value → vi_Me → Prop} : vo X 23 [.ref r, .int x0] S post ↔ vw X 23 vc23_0 [some (.ref r), some (.int x0)] [] S post := by
  unfold vo
  rw [vb23_0, vl23]
  exact ⟨fun h => h.2, fun h => ⟨show (2 : Nat) ≤ 2 by decide, h⟩⟩
theorem vs24 {X : vi_Ex} {r : Nat} {S : vi_Me} {post : Option Value → vi_Me → Prop} : vo X 24 [.ref r] S post ↔ vw X 24 vc24_0 [some (.ref r)] [] S post := by
  unfold vo
  rw [vb24_0, vl24]
  exact ⟨fun h => h.2, fun h => ⟨show (1 : Nat) ≤ 1 by decide, h⟩⟩
theorem vs25 {X : vi_Ex} {r : Nat} {x0 : Int32} {S : vi_Me} {post : Option Value → vi_Me → Prop} : vo X 25 [.ref r, .int x0] S post ↔ vw X 25 vc25_0 [some (.ref r), some (.int x0), none] [] S post := by
  unfold vo
  rw [vb25_0, vl25]
  exact ⟨fun h => h.2, fun h => ⟨show (2 : Nat) ≤ 3 by decide, h⟩⟩
theorem vs26 {X : vi_Ex} {r : Nat} {x0 : Int32} {S : vi_Me} {post : Option Value → vi_Me → Prop} : vo X 26 [.ref r, .int x0] S post ↔ vw X 26 vc26_0 [some (.ref r), some (.int x0), none] [] S post := by
  unfold vo
  rw [vb26_0, vl26]
  exact ⟨fun h => h.2, fun h => ⟨show (2 : Nat) ≤ 3 by decide, h⟩⟩
theorem vs27 {X : vi_Ex} {r : Nat} {S : vi_Me} {post : Option Value → vi_Me → Prop} : vo X 27 [.ref r] S post ↔ vw X 27 vc27_0 [some (.ref r)] [] S post := by
  unfold vo
  rw [vb27_0, vl27]
  exact ⟨fun h => h.2, fun h => ⟨show (1 : Nat) ≤ 1 by decide, h⟩⟩
theorem vs28 {X : vi_Ex} {r : Nat} {S : vi_Me} {post : Option Value → vi_Me → Prop} : vo X 28 [.ref r] S post ↔ vw X 28 vc28_0 [some (.ref r)] [] S post := by
  unfold vo
  rw [vb28_0, vl28]
  exact ⟨fun h => h.2, fun h => ⟨show (1 : Nat) ≤ 1 by decide, h⟩⟩
theorem vs29 {X : vi_Ex} {r : Nat} {x0 : Nat} {x1 : Int32} {S : vi_Me} {post : Option Value → vi_Me → Prop} : vo X 29 [.ref r, .ref x0, .int x1] S post ↔ vw X 29 vc29_0 [some (.ref r), some (.ref x0), some (.int x1)] [] S post := by
  unfold vo
  rw [vb29_0, vl29]
  exact ⟨fun h => h.2, fun h => ⟨show (3 : Nat) ≤ 3 by decide, h⟩⟩
theorem vs30 {X : vi_Ex} {r : Nat} {x0 : Nat} {x1 : Int32} {x2 : Int32} {x3 : Int32} {S : vi_Me} {post : Option Value → vi_Me → Prop} : vo X 30 [.ref r, .ref x0, .int x1, .int x2, .int x3] S post ↔ vw X 30 vc30_0 [some (.ref r), some (.ref x0), some (.int x1), some (.int x2), some (.int x3), none] [] S post := by
  unfold vo
  rw [vb30_0, vl30]
  exact ⟨fun h => h.2, fun h => ⟨show (5 : Nat) ≤ 6 by decide, h⟩⟩
theorem vs31 {X : vi_Ex} {r : Nat} {S : vi_Me} {post : Option Value → vi_Me → Prop} : vo X 31 [.ref r] S post ↔ vw X 31 vc31_0 [some (.ref r), none] [] S post := by
  unfold vo
  rw [vb31_0, vl31]
  exact ⟨fun h => h.2, fun h => ⟨show (1 : Nat) ≤ 2 by decide, h⟩⟩
theorem vs32 {X : vi_Ex} {r : Nat} {x0 : Int32} {S : vi_Me} {post : Option Value → vi_Me → Prop} : vo X 32 [.ref r, .int x0] S post ↔ vw X 32 vc32_0 [some (.ref r), some (.int x0), none] [] S post := by
  unfold vo
  rw [vb32_0, vl32]
  exact ⟨fun h => h.2, fun h => ⟨show (2 : Nat) ≤ 3 by decide, h⟩⟩
theorem vs33 {X : vi_Ex} {r : Nat} {S : vi_Me} {post : Option Value → vi_Me → Prop} : vo X 33 [.ref r] S post ↔ vw X 33 vc33_0 [some (.ref r), none, none] [] S post := by
  unfold vo
  rw [vb33_0, vl33]
  exact ⟨fun h => h.2, fun h => ⟨show (1 : Nat) ≤ 3 by decide, h⟩⟩
theorem vs34 {X : vi_Ex} {r : Nat} {x0 : Int32} {x1 : Int32} {x2 : Int32} {S : vi_Me} {post : Option Value → vi_Me → Prop} : vo X 34 [.ref r, .int x0, .int x1, .int x2] S post ↔ vw X 34 vc34_0 [some (.ref r), some (.int x0), some (.int x1), some (.int x2)] [] S post := by
  unfold vo
  rw [vb34_0, vl34]
  exact ⟨fun h => h.2, fun h => ⟨show (4 : Nat) ≤ 4 by decide, h⟩⟩
theorem vs35 {X : vi_Ex} {r : Nat} {x0 : Int32} {S : vi_Me} {post : Option Value → vi_Me → Prop} : vo X 35 [.ref r, .int x0] S post ↔ vw X 35 vc35_0 [some (.ref r), some (.int x0)] [] S post := by
  unfold vo
  rw [vb35_0, vl35]
  exact ⟨fun h => h.2, fun h => ⟨show (2 : Nat) ≤ 2 by decide, h⟩⟩
theorem vs36 {X : vi_Ex} {r : Nat} {x0 : Int32} {S : vi_Me} {post : Option Value → vi_Me → Prop} : vo X 36 [.ref r, .int x0] S post ↔ vw X 36 vc36_0 [some (.ref r), some (.int x0)] [] S post := by
  unfold vo
  rw [vb36_0, vl36]
  exact ⟨fun h => h.2, fun h => ⟨show (2 : Nat) ≤ 2 by decide, h⟩⟩
theorem vs37 {X : vi_Ex} {r : Nat} {x0 : Int32} {x1 : Int32} {x2 : Int32} {S : vi_Me} {post : Option Value → vi_Me → Prop} : vo X 37 [.ref r, .int x0, .int x1, .int x2] S post ↔ vw X 37 vc37_0 [some (.ref r), some (.int x0), some (.int x1), some (.int x2)] [] S post := by
  unfold vo
  rw [vb37_0, vl37]
  exact ⟨fun h => h.2, fun h => ⟨show (4 : Nat) ≤ 4 by decide, h⟩⟩
theorem vs38 {X : vi_Ex} {r : Nat} {x0 : Int32} {S : vi_Me} {post : Option Value → vi_Me → Prop} : vo X 38 [.ref r, .int x0] S post ↔ vw X 38 vc38_0 [some (.ref r), some (.int x0)] [] S post := by
  unfold vo
  rw [vb38_0, vl38]
  exact ⟨fun h => h.2, fun h => ⟨show (2 : Nat) ≤ 2 by decide, h⟩⟩
theorem vs39 {X : vi_Ex} {r : Nat} {x0 : Int32} {S : vi_Me} {post : Option Value → vi_Me → Prop} : vo X 39 [.ref r, .int x0] S post ↔ vw X 39 vc39_0 [some (.ref r), some (.int x0)] [] S post := by
  unfold vo
  rw [vb39_0, vl39]
  exact ⟨fun h => h.2, fun h => ⟨show (2 : Nat) ≤ 2 by decide, h⟩⟩
theorem vs40 {X : vi_Ex} {r : Nat} {S : vi_Me} {post : Option Value → vi_Me → Prop} : vo X 40 [.ref r] S post ↔ vw X 40 vc40_0 [some (.ref r), none, none, none, none] [] S post := by
  unfold vo
  rw [vb40_0, vl40]
  exact ⟨fun h => h.2, fun h => ⟨show (1 : Nat) ≤ 5 by decide, h⟩⟩
theorem vs41 {X : vi_Ex} {r : Nat} {x0 : Int32} {S : vi_Me} {post : Option Value → vi_Me → Prop} : vo X 41 [.ref r, .int x0] S post ↔ vw X 41 vc41_0 [some (.ref r), some (.int x0)] [] S post := by
  unfold vo
  rw [vb41_0, vl41]
  exact ⟨fun h => h.2, fun h => ⟨show (2 : Nat) ≤ 2 by decide, h⟩⟩
theorem vs42 {X : vi_Ex} {x0 : Int32} {S : vi_Me} {post : Option Value → vi_Me → Prop} : vo X 42 [.int x0] S post ↔ vw X 42 vc42_0 [some (.int x0), none, none, none] [] S post := by
  unfold vo
  rw [vb42_0, vl42]
  exact ⟨fun h => h.2, fun h => ⟨show (1 : Nat) ≤ 4 by decide, h⟩⟩
theorem vs43 {X : vi_Ex} {x0 : Int32} {S : vi_Me} {post : Option Value → vi_Me → Prop} : vo X 43 [.int x0] S post ↔ vw X 43 vc43_0 [some (.int x0), none, none] [] S post := by
  unfold vo
  rw [vb43_0, vl43]
  exact ⟨fun h => h.2, fun h => ⟨show (1 : Nat) ≤ 3 by decide, h⟩⟩
theorem vs44 {X : vi_Ex} {r : Nat} {S : vi_Me} {post : Option Value → vi_Me → Prop} : vo X 44 [.ref r] S post ↔ vw X 44 vc44_0 [some (.ref r), none] [] S post := by
  unfold vo
  rw [vb44_0, vl44]
  exact ⟨fun h => h.2, fun h => ⟨show (1 : Nat) ≤ 2 by decide, h⟩⟩
theorem vs45 {X : vi_Ex} {r : Nat} {x0 : Int32} {S : vi_Me} {post : Option Value → vi_Me → Prop} : vo X 45 [.ref r, .int x0] S post ↔ vw X 45 vc45_0 [some (.ref r), some (.int x0), none, none, none, none] [] S post := by
  unfold vo
  rw [vb45_0, vl45]
  exact ⟨fun h => h.2, fun h => ⟨show (2 : Nat) ≤ 6 by decide, h⟩⟩
theorem vs46 {X : vi_Ex} {x0 : Int32} {x1 : Int32} {S : vi_Me} {post : Option Value → vi_Me → Prop} : vo X 46 [.int x0, .int x1] S post ↔ vw X 46 vc46_0 [some (.int x0), some (.int x1), none, none, none] [] S post := by
  unfold vo
  rw [vb46_0, vl46]
  exact ⟨fun h => h.2, fun h => ⟨show (2 : Nat) ≤ 5 by decide, h⟩⟩
theorem vs47 {X : vi_Ex} {x0 : Int32} {x1 : Int32} {S : vi_Me} {post : Option Value → vi_Me → Prop} : vo X 47 [.int x0, .int x1] S post ↔ vw X 47 vc47_0 [some (.int x0), some (.int x1)] [] S post := by
  unfold vo
  rw [vb47_0, vl47]
  exact ⟨fun h => h.2, fun h => ⟨show (2 : Nat) ≤ 2 by decide, h⟩⟩
theorem vs48 {X : vi_Ex} {x0 : Int32} {x1 : Int32} {S : vi_Me} {post : Option Value → vi_Me → Prop} : vo X 48 [.int x0, .int x1] S post ↔ vw X 48 vc48_0 [some (.int x0), some (.int x1), none] [] S post := by
  unfold vo
  rw [vb48_0, vl48]
  exact ⟨fun h => h.2, fun h => ⟨show (2 : Nat) ≤ 3 by decide, h⟩⟩
theorem vs49 {X : vi_Ex} {r : Nat} {S : vi_Me} {post : Option Value → vi_Me → Prop} : vo X 49 [.ref r] S post ↔ vw X 49 vc49_0 [some (.ref r), none] [] S post := by
  unfold vo
  rw [vb49_0, vl49]
  exact ⟨fun h => h.2, fun h => ⟨show (1 : Nat) ≤ 2 by decide, h⟩⟩
theorem vs50 {X : vi_Ex} {r : Nat} {x0 : Int32} {S : vi_Me} {post : Option Value → vi_Me → Prop} : vo X 50 [.ref r, .int x0] S post ↔ vw X 50 vc50_0 [some (.ref r), some (.int x0)] [] S post := by
  unfold vo
  rw [vb50_0, vl50]
  exact ⟨fun h => h.2, fun h => ⟨show (2 : Nat) ≤ 2 by decide, h⟩⟩
theorem vs51 {X : vi_Ex} {r : Nat} {x0 : Int32} {S : vi_Me} {post : Option Value → vi_Me → Prop} : vo X 51 [.ref r, .int x0] S post ↔ vw X 51 vc51_0 [some (.ref r), some (.int x0)] [] S post := by
  unfold vo
  rw [vb51_0, vl51]
  exact ⟨fun h => h.2, fun h => ⟨show (2 : Nat) ≤ 2 by decide, h⟩⟩
theorem vs52 {X : vi_Ex} {r : Nat} {x0 : Int32} {S : vi_Me} {post : Option Value → vi_Me → Prop} : vo X 52 [.ref r, .int x0] S post ↔ vw X 52 vc52_0 [some (.ref r), some (.int x0), none, none] [] S post := by
  unfold vo
  rw [vb52_0, vl52]
  exact ⟨fun h => h.2, fun h => ⟨show (2 : Nat) ≤ 4 by decide, h⟩⟩
theorem vs53 {X : vi_Ex} {r : Nat} {x0 : Int32} {S : vi_Me} {post : Option Value → vi_Me → Prop} : vo X 53 [.ref r, .int x0] S post ↔ vw X 53 vc53_0 [some (.ref r), some (.int x0), none, none, none] [] S post := by
  unfold vo
  rw [vb53_0, vl53]
  exact ⟨fun h => h.2, fun h => ⟨show (2 : Nat) ≤ 5 by decide, h⟩⟩
theorem vs54 {X : vi_Ex} {r : Nat} {x0 : Int32} {S : vi_Me} {post : Option Value → vi_Me → Prop} : vo X 54 [.ref r, .int x0] S post ↔ vw X 54 vc54_0 [some (.ref r), some (.int x0)] [] S post := by
  unfold vo
  rw [vb54_0, vl54]
  exact ⟨fun h => h.2, fun h => ⟨show (2 : Nat) ≤ 2 by decide, h⟩⟩
theorem vs55 {X : vi_Ex} {r : Nat} {x0 : Int32} {S : vi_Me} {post : Option Value → vi_Me → Prop} : vo X 55 [.ref r, .int x0] S post ↔ vw X 55 vc55_0 [some (.ref r), some (.int x0)] [] S post := by
  unfold vo
  rw [vb55_0, vl55]
  exact ⟨fun h => h.2, fun h => ⟨show (2 : Nat) ≤ 2 by decide, h⟩⟩
theorem vs56 {X : vi_Ex} {r : Nat} {x0 : Int32} {x1 : Int32} {S : vi_Me} {post : Option Value → vi_Me → Prop} : vo X 56 [.ref r, .int x0, .int x1] S post ↔ vw X 56 vc56_0 [some (.ref r), some (.int x0), some (.int x1)] [] S post := by
  unfold vo
  rw [vb56_0, vl56]
  exact ⟨fun h => h.2, fun h => ⟨show (3 : Nat) ≤ 3 by decide, h⟩⟩
theorem vs57 {X : vi_Ex} {r : Nat} {S : vi_Me} {post : Option Value → vi_Me → Prop} : vo X 57 [.ref r] S post ↔ vw X 57 vc57_0 [some (.ref r)] [] S post := by
  unfold vo
  rw [vb57_0, vl57]
  exact ⟨fun h => h.2, fun h => ⟨show (1 : Nat) ≤ 1 by decide, h⟩⟩
theorem vs58 {X : vi_Ex} {r : Nat} {S : vi_Me} {post : Option Value → vi_Me → Prop} : vo X 58 [.ref r] S post ↔ vw X 58 vc58_0 [some (.ref r), none, none] [] S post := by
  unfold vo
  rw [vb58_0, vl58]
  exact ⟨fun h => h.2, fun h => ⟨show (1 : Nat) ≤ 3 by decide, h⟩⟩
theorem vs59 {X : vi_Ex} {r : Nat} {S : vi_Me} {post : Option Value → vi_Me → Prop} : vo X 59 [.ref r] S post ↔ vw X 59 vc59_0 [some (.ref r), none] [] S post := by
  unfold vo
  rw [vb59_0, vl59]
  exact ⟨fun h => h.2, fun h => ⟨show (1 : Nat) ≤ 2 by decide, h⟩⟩
theorem vs60 {X : vi_Ex} {r : Nat} {x0 : Int32} {S : vi_Me} {post : Option Value → vi_Me → Prop} : vo X 60 [.ref r, .int x0] S post ↔ vw X 60 vc60_0 [some (.ref r), some (.int x0)] [] S post := by
  unfold vo
  rw [vb60_0, vl60]
  exact ⟨fun h => h.2, fun h => ⟨show (2 : Nat) ≤ 2 by decide, h⟩⟩
theorem vs61 {X : vi_Ex} {r : Nat} {x0 : Int32} {S : vi_Me} {post : Option Value → vi_Me → Prop} : vo X 61 [.ref r, .int x0] S post ↔ vw X 61 vc61_0 [some (.ref r), some (.int x0)] [] S post := by
  unfold vo
  rw [vb61_0, vl61]
  exact ⟨fun h => h.2, fun h => ⟨show (2 : Nat) ≤ 2 by decide, h⟩⟩
theorem vs62 {X : vi_Ex} {r : Nat} {x0 : Int32} {S : vi_Me} {post : Option Value → vi_Me → Prop} : vo X 62 [.ref r, .int x0] S post ↔ vw X 62 vc62_0 [some (.ref r), some (.int x0), none] [] S post := by
  unfold vo
  rw [vb62_0, vl62]
  exact ⟨fun h => h.2, fun h => ⟨show (2 : Nat) ≤ 3 by decide, h⟩⟩
theorem vs63 {X : vi_Ex} {r : Nat} {x0 : Int32} {S : vi_Me} {post : Option Value → vi_Me → Prop} : vo X 63 [.ref r, .int x0] S post ↔ vw X 63 vc63_0 [some (.ref r), some (.int x0)] [] S post := by
  unfold vo
  rw [vb63_0, vl63]
  exact ⟨fun h => h.2, fun h => ⟨show (2 : Nat) ≤ 2 by decide, h⟩⟩
theorem vs64 {X : vi_Ex} {r : Nat} {x0 : Int32} {S : vi_Me} {post : Option Value → vi_Me → Prop} : vo X 64 [.ref r, .int x0] S post ↔ vw X 64 vc64_0 [some (.ref r), some (.int x0)] [] S post := by
  unfold vo
  rw [vb64_0, vl64]
  exact ⟨fun h => h.2, fun h => ⟨show (2 : Nat) ≤ 2 by decide, h⟩⟩
theorem vs65 {X : vi_Ex} {r : Nat} {x0 : Nat} {x1 : Int32} {S : vi_Me} {post : Option Value → vi_Me → Prop} : vo X 65 [.ref r, .ref x0, .int x1] S post ↔ vw X 65 vc65_0 [some (.ref r), some (.ref x0), some (.int x1)] [] S post := by
  unfold vo
  rw [vb65_0, vl65]
  exact ⟨fun h => h.2, fun h => ⟨show (3 : Nat) ≤ 3 by decide, h⟩⟩
theorem vs66 {X : vi_Ex} {r : Nat} {x0 : Int32} {x1 : Int32} {S : vi_Me} {post : Option Value → vi_Me → Prop} : vo X 66 [.ref r, .int x0, .int x1] S post ↔ vw X 66 vc66_0 [some (.ref r), some (.int x0), some (.int x1)] [] S post := by
  unfold vo
  rw [vb66_0, vl66]
  exact ⟨fun h => h.2, fun h => ⟨show (3 : Nat) ≤ 3 by decide, h⟩⟩
theorem vs67 {X : vi_Ex} {r : Nat} {x0 : Nat} {S : vi_Me} {post : Option Value → vi_Me → Prop} : vo X 67 [.ref r, .ref x0] S post ↔ vw X 67 vc67_0 [some (.ref r), some (.ref x0), none, none] [] S post := by
  unfold vo
  rw [vb67_0, vl67]
  exact ⟨fun h => h.2, fun h => ⟨show (2 : Nat) ≤ 4 by decide, h⟩⟩
theorem vs68 {X : vi_Ex} {r : Nat} {S : vi_Me} {post : Option Value → vi_Me → Prop} : vo X 68 [.ref r] S post ↔ vw X 68 vc68_0 [some (.ref r), none] [] S post := by
  unfold vo
  rw [vb68_0, vl68]
  exact ⟨fun h => h.2, fun h => ⟨show (1 : Nat) ≤ 2 by decide, h⟩⟩
theorem vs69 {X : vi_Ex} {r : Nat} {x0 : Nat} {S : vi_Me} {post : Option Value → vi_Me → Prop} : vo X 69 [.ref r, .ref x0] S post ↔ vw X 69 vc69_0 [some (.ref r), some (.ref x0), none, none] [] S post := by
  unfold vo
  rw [vb69_0, vl69]
  exact ⟨fun h => h.2, fun h => ⟨show (2 : Nat) ≤ 4 by decide, h⟩⟩
theorem vs70 {X : vi_Ex} {r : Nat} {x0 : Int32} {S : vi_Me} {post : Option Value → vi_Me → Prop} : vo X 70 [.ref r, .int x0] S post ↔ vw X 70 vc70_0 [some (.ref r), some (.int x0)] [] S post := by
  unfold vo
  rw [vb70_0, vl70]
  exact ⟨fun h => h.2, fun h => ⟨show (2 : Nat) ≤ 2 by decide, h⟩⟩
theorem vs71 {X : vi_Ex} {r : Nat} {S : vi_Me} {post : Option Value → vi_Me → Prop} : vo X 71 [.ref r] S post ↔ vw X 71 vc71_0 [some (.ref r)] [] S post := by
  unfold vo
  rw [vb71_0, vl71]
  exact ⟨fun h => h.2, fun h => ⟨show (1 : Nat) ≤ 1 by decide, h⟩⟩
theorem vs72 {X : vi_Ex} {r : Nat} {x0 : Int32} {x1 : Int32} {S : vi_Me} {post : Option Value → vi_Me → Prop} : vo X 72 [.ref r, .int x0, .int x1] S post ↔ vw X 72 vc72_0 [some (.ref r), some (.int x0), some (.int x1)] [] S post := by
  unfold vo
  rw [vb72_0, vl72]
  exact ⟨fun h => h.2, fun h => ⟨show (3 : Nat) ≤ 3 by decide, h⟩⟩
theorem vs73 {X : vi_Ex} {r : Nat} {x0 : Int32} {S : vi_Me} {post : Option Value → vi_Me → Prop} : vo X 73 [.ref r, .int x0] S post ↔ vw X 73 vc73_0 [some (.ref r), some (.int x0), none, none] [] S post := by
  unfold vo
  rw [vb73_0, vl73]
  exact ⟨fun h => h.2, fun h => ⟨show (2 : Nat) ≤ 4 by decide, h⟩⟩
theorem vs74 {X : vi_Ex} {r : Nat} {x0 : Int32} {x1 : Int32} {S : vi_Me} {post : Option Value → vi_Me → Prop} : vo X 74 [.ref r, .int x0, .int x1] S post ↔ vw X 74 vc74_0 [some (.ref r), some (.int x0), some (.int x1)] [] S post := by
  unfold vo
  rw [vb74_0, vl74]
  exact ⟨fun h => h.2, fun h => ⟨show (3 : Nat) ≤ 3 by decide, h⟩⟩
theorem vs75 {X : vi_Ex} {r : Nat} {x0 : Int32} {x1 : Int32} {S : vi_Me} {post : Option Value → vi_Me → Prop} : vo X 75 [.ref r, .int x0, .int x1] S post ↔ vw X 75 vc75_0 [some (.ref r), some (.int x0), some (.int x1)] [] S post := by
  unfold vo
  rw [vb75_0, vl75]
  exact ⟨fun h => h.2, fun h => ⟨show (3 : Nat) ≤ 3 by decide, h⟩⟩
theorem vs76 {X : vi_Ex} {r : Nat} {x0 : Int32} {x1 : Int32} {S : vi_Me} {post : Option Value → vi_Me → Prop} : vo X 76 [.ref r, .int x0, .int x1] S post ↔ vw X 76 vc76_0 [some (.ref r), some (.int x0), some (.int x1), none] [] S post := by
  unfold vo
  rw [vb76_0, vl76]
  exact ⟨fun h => h.2, fun h => ⟨show (3 : Nat) ≤ 4 by decide, h⟩⟩
theorem vs77 {X : vi_Ex} {r : Nat} {x0 : Int32} {x1 : Int32} {S : vi_Me} {post : Option Value → vi_Me → Prop} : vo X 77 [.ref r, .int x0, .int x1] S post ↔ vw X 77 vc77_0 [some (.ref r), some (.int x0), some (.int x1)] [] S post := by
  unfold vo
  rw [vb77_0, vl77]
  exact ⟨fun h => h.2, fun h => ⟨show (3 : Nat) ≤ 3 by decide, h⟩⟩
theorem vs78 {X : vi_Ex} {r : Nat} {x0 : Int32} {x1 : Int32} {S : vi_Me} {post : Option Value → vi_Me → Prop} : vo X 78 [.ref r, .int x0, .int x1] S post ↔ vw X 78 vc78_0 [some (.ref r), some (.int x0), some (.int x1)] [] S post := by
  unfold vo
  rw [vb78_0, vl78]
  exact ⟨fun h => h.2, fun h => ⟨show (3 : Nat) ≤ 3 by decide, h⟩⟩
theorem vs79 {X : vi_Ex} {r : Nat} {x0 : Int32} {x1 : Int32} {S : vi_Me} {post : Option Value → vi_Me → Prop} : vo X 79 [.ref r, .int x0, .int x1] S post ↔ vw X 79 vc79_0 [some (.ref r), some (.int x0), some (.int x1)] [] S post := by
  unfold vo
  rw [vb79_0, vl79]
  exact ⟨fun h => h.2, fun h => ⟨show (3 : Nat) ≤ 3 by decide, h⟩⟩
theorem vs80 {X : vi_Ex} {r : Nat} {x0 : Int32} {S : vi_Me} {post : Option Value → vi_Me → Prop} : vo X 80 [.ref r, .int x0] S post ↔ vw X 80 vc80_0 [some (.ref r), some (.int x0)] [] S post := by
  unfold vo
  rw [vb80_0, vl80]
  exact ⟨fun h => h.2, fun h => ⟨show (2 : Nat) ≤ 2 by decide, h⟩⟩
theorem vs81 {X : vi_Ex} {r : Nat} {x0 : Int32} {x1 : Int32} {S : vi_Me} {post : Option Value → vi_Me → Prop} : vo X 81 [.ref r, .int x0, .int x1] S post ↔ vw X 81 vc81_0 [some (.ref r), some (.int x0), some (.int x1)] [] S post := by
  unfold vo
  rw [vb81_0, vl81]
  exact ⟨fun h => h.2, fun h => ⟨show (3 : Nat) ≤ 3 by decide, h⟩⟩
theorem vs82 {X : vi_Ex} {r : Nat} {x0 : Int32} {x1 : Int32} {S : vi_Me} {post : Option Value → vi_Me → Prop} : vo X 82 [.ref r, .int x0, .int x1] S post ↔ vw X 82 vc82_0 [some (.ref r), some (.int x0), some (.int x1), none] [] S post := by
  unfold vo
  rw [vb82_0, vl82]
  exact ⟨fun h => h.2, fun h => ⟨show (3 : Nat) ≤ 4 by decide, h⟩⟩
theorem vs83 {X : vi_Ex} {r : Nat} {S : vi_Me} {post : Option Value → vi_Me → Prop} : vo X 83 [.ref r] S post ↔ vw X 83 vc83_0 [some (.ref r), none] [] S post := by
  unfold vo
  rw [vb83_0, vl83]
  exact ⟨fun h => h.2, fun h => ⟨show (1 : Nat) ≤ 2 by decide, h⟩⟩
theorem vs84 {X : vi_Ex} {r : Nat} {S : vi_Me} {post : Option Value → vi_Me → Prop} : vo X 84 [.ref r] S post ↔ vw X 84 vc84_0 [some (.ref r)] [] S post := by
  unfold vo
  rw [vb84_0, vl84]
  exact ⟨fun h => h.2, fun h => ⟨show (1 : Nat) ≤ 1 by decide, h⟩⟩
theorem vs85 {X : vi_Ex} {r : Nat} {x0 : Int32} {x1 : Nat} {S : vi_Me} {post : Option Value → vi_Me → Prop} : vo X 85 [.ref r, .int x0, .ref x1] S post ↔ vw X 85 vc85_0 [some (.ref r), some (.int x0), some (.ref x1), none] [] S post := by
  unfold vo
  rw [vb85_0, vl85]
  exact ⟨fun h => h.2, fun h => ⟨show (3 : Nat) ≤ 4 by decide, h⟩⟩
theorem vs86 {X : vi_Ex} {r : Nat} {x0 : Int32} {x1 : Nat} {S : vi_Me} {post : Option Value → vi_Me → Prop} : vo X 86 [.ref r, .int x0, .ref x1] S post ↔ vw X 86 vc86_0 [some (.ref r), some (.int x0), some (.ref x1), none] [] S post := by
  unfold vo
  rw [vb86_0, vl86]
  exact ⟨fun h => h.2, fun h => ⟨show (3 : Nat) ≤ 4 by decide, h⟩⟩
theorem vs87 {X : vi_Ex} {r : Nat} {S : vi_Me} {post : Option Value → vi_Me → Prop} : vo X 87 [.ref r] S post ↔ vw X 87 vc87_0 [some (.ref r)] [] S post := by
  unfold vo
  rw [vb87_0, vl87]
  exact ⟨fun h => h.2, fun h => ⟨show (1 : Nat) ≤ 1 by decide, h⟩⟩
theorem vs88 {X : vi_Ex} {r : Nat} {x0 : Int32} {S : vi_Me} {post : Option Value → vi_Me → Prop} : vo X 88 [.ref r, .int x0] S post ↔ vw X 88 vc88_0 [some (.ref r), some (.int x0)] [] S post := by
  unfold vo
  rw [vb88_0, vl88]
  exact ⟨fun h => h.2, fun h => ⟨show (2 : Nat) ≤ 2 by decide, h⟩⟩
theorem vs89 {X : vi_Ex} {r : Nat} {S : vi_Me} {post : Option Value → vi_Me → Prop} : vo X 89 [.ref r] S post ↔ vw X 89 vc89_0 [some (.ref r), none] [] S post := by
  unfold vo
  rw [vb89_0, vl89]
  exact ⟨fun h => h.2, fun h => ⟨show (1 : Nat) ≤ 2 by decide, h⟩⟩
theorem vs90 {X : vi_Ex} {r : Nat} {x0 : Int32} {S : vi_Me} {post : Option Value → vi_Me → Prop} : vo X 90 [.ref r, .int x0] S post ↔ vw X 90 vc90_0 [some (.ref r), some (.int x0)] [] S post := by
  unfold vo
  rw [vb90_0, vl90]
  exact ⟨fun h => h.2, fun h => ⟨show (2 : Nat) ≤ 2 by decide, h⟩⟩
theorem vs91 {X : vi_Ex} {r : Nat} {S : vi_Me} {post : Option Value → vi_Me → Prop} : vo X 91 [.ref r] S post ↔ vw X 91 vc91_0 [some (.ref r)] [] S post := by
  unfold vo
  rw [vb91_0, vl91]
  exact ⟨fun h => h.2, fun h => ⟨show (1 : Nat) ≤ 1 by decide, h⟩⟩
theorem vs92 {X : vi_Ex} {r : Nat} {S : vi_Me} {post : Option Value → vi_Me → Prop} : vo X 92 [.ref r] S post ↔ vw X 92 vc92_0 [some (.ref r), none, none, none, none] [] S post := by
  unfold vo
  rw [vb92_0, vl92]
  exact ⟨fun h => h.2, fun h => ⟨show (1 : Nat) ≤ 5 by decide, h⟩⟩
theorem vs93 {X : vi_Ex} {r : Nat} {x0 : Int32} {S : vi_Me} {post : Option Value → vi_Me → Prop} : vo X 93 [.ref r, .int x0] S post ↔ vw X 93 vc93_0 [some (.ref r), some (.int x0)] [] S post := by
  unfold vo
  rw [vb93_0, vl93]
  exact ⟨fun h => h.2, fun h => ⟨show (2 : Nat) ≤ 2 by decide, h⟩⟩
theorem vs94 {X : vi_Ex} {r : Nat} {x0 : Int32} {S : vi_Me} {post : Option Value → vi_Me → Prop} : vo X 94 [.ref r, .int x0] S post ↔ vw X 94 vc94_0 [some (.ref r), some (.int x0)] [] S post := by
  unfold vo
  rw [vb94_0, vl94]
  exact ⟨fun h => h.2, fun h => ⟨show (2 : Nat) ≤ 2 by decide, h⟩⟩
theorem vs95 {X : vi_Ex} {r : Nat} {x0 : Int32} {S : vi_Me} {post : Option Value → vi_Me → Prop} : vo X 95 [.ref r, .int x0] S post ↔ vw X 95 vc95_0 [some (.ref r), some (.int x0)] [] S post := by
  unfold vo
  rw [vb95_0, vl95]
  exact ⟨fun h => h.2, fun h => ⟨show (2 : Nat) ≤ 2 by decide, h⟩⟩
theorem vs96 {X : vi_Ex} {r : Nat} {S : vi_Me} {post : Option Value → vi_Me → Prop} : vo X 96 [.ref r] S post ↔ vw X 96 vc96_0 [some (.ref r)] [] S post := by
  unfold vo
  rw [vb96_0, vl96]
  exact ⟨fun h => h.2, fun h => ⟨show (1 : Nat) ≤ 1 by decide, h⟩⟩
theorem vs97 {X : vi_Ex} {r : Nat} {x0 : Int32} {S : vi_Me} {post : Option Value → vi_Me → Prop} : vo X 97 [.ref r, .int x0] S post ↔ vw X 97 vc97_0 [some (.ref r), some (.int x0), none] [] S post := by
  unfold vo
  rw [vb97_0, vl97]
  exact ⟨fun h => h.2, fun h => ⟨show (2 : Nat) ≤ 3 by decide, h⟩⟩
theorem vs98 {X : vi_Ex} {r : Nat} {x0 : Int32} {S : vi_Me} {post : Option Value → vi_Me → Prop} : vo X 98 [.ref r, .int x0] S post ↔ vw X 98 vc98_0 [some (.ref r), some (.int x0)] [] S post := by
  unfold vo
  rw [vb98_0, vl98]
  exact ⟨fun h => h.2, fun h => ⟨show (2 : Nat) ≤ 2 by decide, h⟩⟩
theorem vs99 {X : vi_Ex} {r : Nat} {S : vi_Me} {post : Option Value → vi_Me → Prop} : vo X 99 [.ref r] S post ↔ vw X 99 vc99_0 [some (.ref r), none, none] [] S post := by
  unfold vo
  rw [vb99_0, vl99]
  exact ⟨fun h => h.2, fun h => ⟨show (1 : Nat) ≤ 3 by decide, h⟩⟩
theorem vs100 {X : vi_Ex} {r : Nat} {x0 : Int32} {x1 : Int32} {S : vi_Me} {post : Option Value → vi_Me → Prop} : vo X 100 [.ref r, .int x0, .int x1] S post ↔ vw X 100 vc100_0 [some (.ref r), some (.int x0), some (.int x1)] [] S post := by
  unfold vo
  rw [vb100_0, vl100]
  exact ⟨fun h => h.2, fun h => ⟨show (3 : Nat) ≤ 3 by decide, h⟩⟩
theorem vs101 {X : vi_Ex} {r : Nat} {x0 : Int32} {S : vi_Me} {post : Option Value → vi_Me → Prop} : vo X 101 [.ref r, .int x0] S post ↔ vw X 101 vc101_0 [some (.ref r), some (.int x0), none, none] [] S post := by
  unfold vo
  rw [vb101_0, vl101]
  exact ⟨fun h => h.2, fun h => ⟨show (2 : Nat) ≤ 4 by decide, h⟩⟩
theorem vs102 {X : vi_Ex} {r : Nat} {x0 : Int32} {x1 : Int32} {S : vi_Me} {post : Option Value → vi_Me → Prop} : vo X 102 [.ref r, .int x0, .int x1] S post ↔ vw X 102 vc102_0 [some (.ref r), some (.int x0), some (.int x1), none] [] S post := by
  unfold vo
  rw [vb102_0, vl102]
  exact ⟨fun h => h.2, fun h => ⟨show (3 : Nat) ≤ 4 by decide, h⟩⟩
theorem vs103 {X : vi_Ex} {r : Nat} {S : vi_Me} {post : Option Value → vi_Me → Prop} : vo X 103 [.ref r] S post ↔ vw X 103 vc103_0 [some (.ref r), none, none] [] S post := by
  unfold vo
  rw [vb103_0, vl103]
  exact ⟨fun h => h.2, fun h => ⟨show (1 : Nat) ≤ 3 by decide, h⟩⟩
theorem vs104 {X : vi_Ex} {r : Nat} {S : vi_Me} {post : Option Value → vi_Me → Prop} : vo X 104 [.ref r] S post ↔ vw X 104 vc104_0 [some (.ref r)] [] S post := by
  unfold vo
  rw [vb104_0, vl104]
  exact ⟨fun h => h.2, fun h => ⟨show (1 : Nat) ≤ 1 by decide, h⟩⟩
theorem vs105 {X : vi_Ex} {r : Nat} {x0 : Int32} {S : vi_Me} {post : Option Value → vi_Me → Prop} : vo X 105 [.ref r, .int x0] S post ↔ vw X 105 vc105_0 [some (.ref r), some (.int x0), none, none] [] S post := by
  unfold vo
  rw [vb105_0, vl105]
  exact ⟨fun h => h.2, fun h => ⟨show (2 : Nat) ≤ 4 by decide, h⟩⟩
theorem vs106 {X : vi_Ex} {r : Nat} {x0 : Int32} {S : vi_Me} {post : Option Value → vi_Me → Prop} : vo X 106 [.ref r, .int x0] S post ↔ vw X 106 vc106_0 [some (.ref r), some (.int x0)] [] S post := by
  unfold vo
  rw [vb106_0, vl106]
  exact ⟨fun h => h.2, fun h => ⟨show (2 : Nat) ≤ 2 by decide, h⟩⟩
theorem vs107 {X : vi_Ex} {r : Nat} {x0 : Int32} {S : vi_Me} {post : Option Value → vi_Me → Prop} : vo X 107 [.ref r, .int x0] S post ↔ vw X 107 vc107_0 [some (.ref r), some (.int x0)] [] S post := by
  unfold vo
  rw [vb107_0, vl107]
  exact ⟨fun h => h.2, fun h => ⟨show (2 : Nat) ≤ 2 by decide, h⟩⟩
theorem vs108 {X : vi_Ex} {r : Nat} {x0 : Int32} {S : vi_Me} {post : Option Value → vi_Me → Prop} : vo X 108 [.ref r, .int x0] S post ↔ vw X 108 vc108_0 [some (.ref r), some (.int x0)] [] S post := by
  unfold vo
  rw [vb108_0, vl108]
  exact ⟨fun h => h.2, fun h => ⟨show (2 : Nat) ≤ 2 by decide, h⟩⟩
theorem vs109 {X : vi_Ex} {r : Nat} {x0 : Int32} {S : vi_Me} {post : Option Value → vi_Me → Prop} : vo X 109 [.ref r, .int x0] S post ↔ vw X 109 vc109_0 [some (.ref r), some (.int x0)] [] S post := by
  unfold vo
  rw [vb109_0, vl109]
  exact ⟨fun h => h.2, fun h => ⟨show (2 : Nat) ≤ 2 by decide, h⟩⟩
theorem vs110 {X : vi_Ex} {r : Nat} {S : vi_Me} {post : Option Value → vi_Me → Prop} : vo X 110 [.ref r] S post ↔ vw X 110 vc110_0 [some (.ref r), none] [] S post := by
  unfold vo
  rw [vb110_0, vl110]
  exact ⟨fun h => h.2, fun h => ⟨show (1 : Nat) ≤ 2 by decide, h⟩⟩
theorem vs111 {X : vi_Ex} {r : Nat} {S : vi_Me} {post : Option Value → vi_Me → Prop} : vo X 111 [.ref r] S post ↔ vw X 111 vc111_0 [some (.ref r), none] [] S post := by
  unfold vo
  rw [vb111_0, vl111]
  exact ⟨fun h => h.2, fun h => ⟨show (1 : Nat) ≤ 2 by decide, h⟩⟩
theorem vs112 {X : vi_Ex} {r : Nat} {S : vi_Me} {post : Option Value → vi_Me → Prop} : vo X 112 [.ref r] S post ↔ vw X 112 vc112_0 [some (.ref r), none, none] [] S post := by
  unfold vo
  rw [vb112_0, vl112]
  exact ⟨fun h => h.2, fun h => ⟨show (1 : Nat) ≤ 3 by decide, h⟩⟩
theorem vs113 {X : vi_Ex} {r : Nat} {x0 : Int32} {S : vi_Me} {post : Option Value → vi_Me → Prop} : vo X 113 [.ref r, .int x0] S post ↔ vw X 113 vc113_0 [some (.ref r), some (.int x0), none, none, none] [] S post := by
  unfold vo
  rw [vb113_0, vl113]
  exact ⟨fun h => h.2, fun h => ⟨show (2 : Nat) ≤ 5 by decide, h⟩⟩
theorem vs114 {X : vi_Ex} {r : Nat} {x0 : Int32} {S : vi_Me} {post : Option Value → vi_Me → Prop} : vo X 114 [.ref r, .int x0] S post ↔ vw X 114 vc114_0 [some (.ref r), some (.int x0)] [] S post := by
  unfold vo
  rw [vb114_0, vl114]
  exact ⟨fun h => h.2, fun h => ⟨show (2 : Nat) ≤ 2 by decide, h⟩⟩
theorem vs115 {X : vi_Ex} {r : Nat} {x0 : Int32} {x1 : Int32} {S : vi_Me} {post : Option Value → vi_Me → Prop} : vo X 115 [.ref r, .int x0, .int x1] S post ↔ vw X 115 vc115_0 [some (.ref r), some (.int x0), some (.int x1), none, none, none] [] S post := by
  unfold vo
  rw [vb115_0, vl115]
  exact ⟨fun h => h.2, fun h => ⟨show (3 : Nat) ≤ 6 by decide, h⟩⟩
theorem vs116 {X : vi_Ex} {r : Nat} {x0 : Int32} {S : vi_Me} {post : Option Value → vi_Me → Prop} : vo X 116 [.ref r, .int x0] S post ↔ vw X 116 vc116_0 [some (.ref r), some (.int x0)] [] S post := by
  unfold vo
  rw [vb116_0, vl116]
  exact ⟨fun h => h.2, fun h => ⟨show (2 : Nat) ≤ 2 by decide, h⟩⟩
theorem vs117 {X : vi_Ex} {r : Nat} {S : vi_Me} {post : Option Value → vi_Me → Prop} : vo X 117 [.ref r] S post ↔ vw X 117 vc117_0 [some (.ref r), none, none, none] [] S post := by
  unfold vo
  rw [vb117_0, vl117]
  exact ⟨fun h => h.2, fun h => ⟨show (1 : Nat) ≤ 4 by decide, h⟩⟩
theorem vs118 {X : vi_Ex} {r : Nat} {x0 : Int32} {S : vi_Me} {post : Option Value → vi_Me → Prop} : vo X 118 [.ref r, .int x0] S post ↔ vw X 118 vc118_0 [some (.ref r), some (.int x0), none] [] S post := by
  unfold vo
  rw [vb118_0, vl118]
  exact ⟨fun h => h.2, fun h => ⟨show (2 : Nat) ≤ 3 by decide, h⟩⟩
theorem vs119 {X : vi_Ex} {r : Nat} {S : vi_Me} {post : Option Value → vi_Me → Prop} : vo X 119 [.ref r] S post ↔ vw X 119 vc119_0 [some (.ref r)] [] S post := by
  unfold vo
  rw [vb119_0, vl119]
  exact ⟨fun h => h.2, fun h => ⟨show (1 : Nat) ≤ 1 by decide, h⟩⟩
theorem vs120 {X : vi_Ex} {r : Nat} {x0 : Nat} {S : vi_Me} {post : Option Value → vi_Me → Prop} : vo X 120 [.ref r, .ref x0] S post ↔ vw X 120 vc120_0 [some (.ref r), some (.ref x0)] [] S post := by
  unfold vo
  rw [vb120_0, vl120]
  exact ⟨fun h => h.2, fun h => ⟨show (2 : Nat) ≤ 2 by decide, h⟩⟩
theorem vs121 {X : vi_Ex} {r : Nat} {x0 : Int32} {x1 : Nat} {x2 : Nat} {S : vi_Me} {post : Option Value → vi_Me → Prop} : vo X 121 [.ref r, .int x0, .ref x1, .ref x2] S post ↔ vw X 121 vc121_0 [some (.ref r), some (.int x0), some (.ref x1), some (.ref x2), none, none, none] [] S post := by
  unfold vo
  rw [vb121_0, vl121]
  exact ⟨fun h => h.2, fun h => ⟨show (4 : Nat) ≤ 7 by decide, h⟩⟩
theorem vs122 {X : vi_Ex} {r : Nat} {x0 : Int32} {x1 : Int32} {x2 : Nat} {x3 : Nat} {S : vi_Me} {post : Option Value → vi_Me → Prop} : vo X 122 [.ref r, .int x0, .int x1, .ref x2, .ref x3] S post ↔ vw X 122 vc122_0 [some (.ref r), some (.int x0), some (.int x1), some (.ref x2), some (.ref x3), none, none] [] S post := by
  unfold vo
  rw [vb122_0, vl122]
  exact ⟨fun h => h.2, fun h => ⟨show (5 : Nat) ≤ 7 by decide, h⟩⟩
theorem vs123 {X : vi_Ex} {r : Nat} {x0 : Int32} {x1 : Int32} {x2 : Nat} {S : vi_Me} {post : Option Value → vi_Me → Prop} : vo X 123 [.ref r, .int x0, .int x1, .ref x2] S post ↔ vw X 123 vc123_0 [some (.ref r), some (.int x0), some (.int x1), some (.ref x2)] [] S post := by
  unfold vo
  rw [vb123_0, vl123]
  exact ⟨fun h => h.2, fun h => ⟨show (4 : Nat) ≤ 4 by decide, h⟩⟩
theorem vs124 {X : vi_Ex} {r : Nat} {x0 : Int32} {x1 : Nat} {S : vi_Me} {post : Option Value → vi_Me → Prop} : vo X 124 [.ref r, .int x0, .ref x1] S post ↔ vw X 124 vc124_0 [some (.ref r), some (.int x0), some (.ref x1)] [] S post := by
  unfold vo
  rw [vb124_0, vl124]
  exact ⟨fun h => h.2, fun h => ⟨show (3 : Nat) ≤ 3 by decide, h⟩⟩
theorem vs125 {X : vi_Ex} {x0 : Int32} {x1 : Int32} {S : vi_Me} {post : Option Value → vi_Me → Prop} : vo X 125 [.int x0, .int x1] S post ↔ vw X 125 vc125_0 [some (.int x0), some (.int x1)] [] S post := by
  unfold vo
  rw [vb125_0, vl125]
  exact ⟨fun h => h.2, fun h => ⟨show (2 : Nat) ≤ 2 by decide, h⟩⟩
theorem vs126 {X : vi_Ex} {r : Nat} {S : vi_Me} {post : Option Value → vi_Me → Prop} : vo X 126 [.ref r] S post ↔ vw X 126 vc126_0 [some (.ref r), none] [] S post := by
  unfold vo
  rw [vb126_0, vl126]
  exact ⟨fun h => h.2, fun h => ⟨show (1 : Nat) ≤ 2 by decide, h⟩⟩
theorem vs127 {X : vi_Ex} {r : Nat} {x0 : Int32} {S : vi_Me} {post : Option Value → vi_Me → Prop} : vo X 127 [.ref r, .int x0] S post ↔ vw X 127 vc127_0 [some (.ref r), some (.int x0), none, none, none] [] S post := by
  unfold vo
  rw [vb127_0, vl127]
  exact ⟨fun h => h.2, fun h => ⟨show (2 : Nat) ≤ 5 by decide, h⟩⟩
theorem vs128 {X : vi_Ex} {r : Nat} {x0 : Int32} {x1 : Int32} {S : vi_Me} {post : Option Value → vi_Me → Prop} : vo X 128 [.ref r, .int x0, .int x1] S post ↔ vw X 128 vc128_0 [some (.ref r), some (.int x0), some (.int x1), none, none, none] [] S post := by
  unfold vo
  rw [vb128_0, vl128]
  exact ⟨fun h => h.2, fun h => ⟨show (3 : Nat) ≤ 6 by decide, h⟩⟩
theorem vs129 {X : vi_Ex} {r : Nat} {x0 : Int32} {S : vi_Me} {post : Option Value → vi_Me → Prop} : vo X 129 [.ref r, .int x0] S post ↔ vw X 129 vc129_0 [some (.ref r), some (.int x0)] [] S post := by
  unfold vo
  rw [vb129_0, vl129]
  exact ⟨fun h => h.2, fun h => ⟨show (2 : Nat) ≤ 2 by decide, h⟩⟩
theorem vs130 {X : vi_Ex} {r : Nat} {x0 : Int32} {S : vi_Me} {post : Option Value → vi_Me → Prop} : vo X 130 [.ref r, .int x0] S post ↔ vw X 130 vc130_0 [some (.ref r), some (.int x0)] [] S post := by
  unfold vo
  rw [vb130_0, vl130]
  exact ⟨fun h => h.2, fun h => ⟨show (2 : Nat) ≤ 2 by decide, h⟩⟩
theorem vs131 {X : vi_Ex} {r : Nat} {x0 : Int32} {S : vi_Me} {post : Option Value → vi_Me → Prop} : vo X 131 [.ref r, .int x0] S post ↔ vw X 131 vc131_0 [some (.ref r), some (.int x0)] [] S post := by
  unfold vo
  rw [vb131_0, vl131]
  exact ⟨fun h => h.2, fun h => ⟨show (2 : Nat) ≤ 2 by decide, h⟩⟩
theorem vs132 {X : vi_Ex} {r : Nat} {x0 : Int32} {S : vi_Me} {post : Option Value → vi_Me → Prop} : vo X 132 [.ref r, .int x0] S post ↔ vw X 132 vc132_0 [some (.ref r), some (.int x0)] [] S post := by
  unfold vo
  rw [vb132_0, vl132]
  exact ⟨fun h => h.2, fun h => ⟨show (2 : Nat) ≤ 2 by decide, h⟩⟩
theorem vs133 {X : vi_Ex} {r : Nat} {x0 : Int32} {S : vi_Me} {post : Option Value → vi_Me → Prop} : vo X 133 [.ref r, .int x0] S post ↔ vw X 133 vc133_0 [some (.ref r), some (.int x0)] [] S post := by
  unfold vo
  rw [vb133_0, vl133]
  exact ⟨fun h => h.2, fun h => ⟨show (2 : Nat) ≤ 2 by decide, h⟩⟩
theorem vs134 {X : vi_Ex} {r : Nat} {x0 : Int32} {S : vi_Me} {post : Option Value → vi_Me → Prop} : vo X 134 [.ref r, .int x0] S post ↔ vw X 134 vc134_0 [some (.ref r), some (.int x0)] [] S post := by
  unfold vo
  rw [vb134_0, vl134]
  exact ⟨fun h => h.2, fun h => ⟨show (2 : Nat) ≤ 2 by decide, h⟩⟩
theorem vs135 {X : vi_Ex} {r : Nat} {x0 : Int32} {S : vi_Me} {post : Option Value → vi_Me → Prop} : vo X 135 [.ref r, .int x0] S post ↔ vw X 135 vc135_0 [some (.ref r), some (.int x0), none, none] [] S post := by
  unfold vo
  rw [vb135_0, vl135]
  exact ⟨fun h => h.2, fun h => ⟨show (2 : Nat) ≤ 4 by decide, h⟩⟩
theorem vs136 {X : vi_Ex} {r : Nat} {x0 : Int32} {S : vi_Me} {post : Option Value → vi_Me → Prop} : vo X 136 [.ref r, .int x0] S post ↔ vw X 136 vc136_0 [some (.ref r), some (.int x0)] [] S post := by
  unfold vo
  rw [vb136_0, vl136]
  exact ⟨fun h => h.2, fun h => ⟨show (2 : Nat) ≤ 2 by decide, h⟩⟩
theorem vs137 {X : vi_Ex} {r : Nat} {x0 : Int32} {x1 : Int32} {S : vi_Me} {post : Option Value → vi_Me → Prop} : vo X 137 [.ref r, .int x0, .int x1] S post ↔ vw X 137 vc137_0 [some (.ref r), some (.int x0), some (.int x1)] [] S post := by
  unfold vo
  rw [vb137_0, vl137]
  exact ⟨fun h => h.2, fun h => ⟨show (3 : Nat) ≤ 3 by decide, h⟩⟩
theorem vs138 {X : vi_Ex} {r : Nat} {x0 : Int32} {S : vi_Me} {post : Option Value → vi_Me → Prop} : vo X 138 [.ref r, .int x0] S post ↔ vw X 138 vc138_0 [some (.ref r), some (.int x0), none, none] [] S post := by
  unfold vo
  rw [vb138_0, vl138]
  exact ⟨fun h => h.2, fun h => ⟨show (2 : Nat) ≤ 4 by decide, h⟩⟩
theorem vs139 {X : vi_Ex} {r : Nat} {x0 : Int32} {S : vi_Me} {post : Option Value → vi_Me → Prop} : vo X 139 [.ref r, .int x0] S post ↔ vw X 139 vc139_0 [some (.ref r), some (.int x0)] [] S post := by
  unfold vo
  rw [vb139_0, vl139]
  exact ⟨fun h => h.2, fun h => ⟨show (2 : Nat) ≤ 2 by decide, h⟩⟩
theorem vs140 {X : vi_Ex} {r : Nat} {x0 : Int32} {S : vi_Me} {post : Option Value → vi_Me → Prop} : vo X 140 [.ref r, .int x0] S post ↔ vw X 140 vc140_0 [some (.ref r), some (.int x0)] [] S post := by
  unfold vo
  rw [vb140_0, vl140]
  exact ⟨fun h => h.2, fun h => ⟨show (2 : Nat) ≤ 2 by decide, h⟩⟩
theorem vs141 {X : vi_Ex} {r : Nat} {x0 : Int32} {x1 : Int32} {S : vi_Me} {post : Option Value → vi_Me → Prop} : vo X 141 [.ref r, .int x0, .int x1] S post ↔ vw X 141 vc141_0 [some (.ref r), some (.int x0), some (.int x1)] [] S post := by
  unfold vo
  rw [vb141_0, vl141]
  exact ⟨fun h => h.2, fun h => ⟨show (3 : Nat) ≤ 3 by decide, h⟩⟩
theorem vs142 {X : vi_Ex} {r : Nat} {x0 : Int32} {S : vi_Me} {post : Option Value → vi_Me → Prop} : vo X 142 [.ref r, .int x0] S post ↔ vw X 142 vc142_0 [some (.ref r), some (.int x0)] [] S post := by
  unfold vo
  rw [vb142_0, vl142]
  exact ⟨fun h => h.2, fun h => ⟨show (2 : Nat) ≤ 2 by decide, h⟩⟩
theorem vs143 {X : vi_Ex} {r : Nat} {x0 : Int32} {S : vi_Me} {post : Option Value → vi_Me → Prop} : vo X 143 [.ref r, .int x0] S post ↔ vw X 143 vc143_0 [some (.ref r), some (.int x0), none] [] S post := by
  unfold vo
  rw [vb143_0, vl143]
  exact ⟨fun h => h.2, fun h => ⟨show (2 : Nat) ≤ 3 by decide, h⟩⟩
theorem vs144 {X : vi_Ex} {r : Nat} {x0 : Int32} {S : vi_Me} {post : Option Value → vi_Me → Prop} : vo X 144 [.ref r, .int x0] S post ↔ vw X 144 vc144_0 [some (.ref r), some (.int x0), none, none] [] S post := by
  unfold vo
  rw [vb144_0, vl144]
  exact ⟨fun h => h.2, fun h => ⟨show (2 : Nat) ≤ 4 by decide, h⟩⟩
theorem vs145 {X : vi_Ex} {r : Nat} {x0 : Int32} {S : vi_Me} {post : Option Value → vi_Me → Prop} : vo X 145 [.ref r, .int x0] S post ↔ vw X 145 vc145_0 [some (.ref r), some (.int x0)] [] S post := by
  unfold vo
  rw [vb145_0, vl145]
  exact ⟨fun h => h.2, fun h => ⟨show (2 : Nat) ≤ 2 by decide, h⟩⟩
theorem vs146 {X : vi_Ex} {r : Nat} {x0 : Int32} {S : vi_Me} {post : Option Value → vi_Me → Prop} : vo X 146 [.ref r, .int x0] S post ↔ vw X 146 vc146_0 [some (.ref r), some (.int x0)] [] S post := by
  unfold vo
  rw [vb146_0, vl146]
  exact ⟨fun h => h.2, fun h => ⟨show (2 : Nat) ≤ 2 by decide, h⟩⟩
theorem vs147 {X : vi_Ex} {x0 : Int32} {S : vi_Me} {post : Option Value → vi_Me → Prop} : vo X 147 [.int x0] S post ↔ vw X 147 vc147_0 [some (.int x0)] [] S post := by
  unfold vo
  rw [vb147_0, vl147]
  exact ⟨fun h => h.2, fun h => ⟨show (1 : Nat) ≤ 1 by decide, h⟩⟩
theorem vs148 {X : vi_Ex} {r : Nat} {S : vi_Me} {post : Option Value → vi_Me → Prop} : vo X 148 [.ref r] S post ↔ vw X 148 vc148_0 [some (.ref r), none] [] S post := by
  unfold vo
  rw [vb148_0, vl148]
  exact ⟨fun h => h.2, fun h => ⟨show (1 : Nat) ≤ 2 by decide, h⟩⟩
theorem vs149 {X : vi_Ex} {r : Nat} {S : vi_Me} {post : Option Value → vi_Me → Prop} : vo X 149 [.ref r] S post ↔ vw X 149 vc149_0 [some (.ref r)] [] S post := by
  unfold vo
  rw [vb149_0, vl149]
  exact ⟨fun h => h.2, fun h => ⟨show (1 : Nat) ≤ 1 by decide, h⟩⟩
theorem vs150 {X : vi_Ex} {r : Nat} {x0 : Int32} {x1 : Int32} {x2 : Int32} {x3 : Int32} {x4 : Int32} {S : vi_Me} {post : Option Value → vi_Me → Prop} : vo X 150 [.ref r, .int x0, .int x1, .int x2, .int x3, .int x4] S post ↔ vw X 150 vc150_0 [some (.ref r), some (.int x0), some (.int x1), some (.int x2), some (.int x3), some (.int x4)] [] S post := by
  unfold vo
  rw [vb150_0, vl150]
  exact ⟨fun h => h.2, fun h => ⟨show (6 : Nat) ≤ 6 by decide, h⟩⟩
theorem vs151 {X : vi_Ex} {r : Nat} {x0 : Int32} {S : vi_Me} {post : Option Value → vi_Me → Prop} : vo X 151 [.ref r, .int x0] S post ↔ vw X 151 vc151_0 [some (.ref r), some (.int x0)] [] S post := by
  unfold vo
  rw [vb151_0, vl151]
  exact ⟨fun h => h.2, fun h => ⟨show (2 : Nat) ≤ 2 by decide, h⟩⟩
theorem vs152 {X : vi_Ex} {r : Nat} {S : vi_Me} {post : Option Value → vi_Me → Prop} : vo X 152 [.ref r] S post ↔ vw X 152 vc152_0 [some (.ref r), none] [] S post := by
  unfold vo
  rw [vb152_0, vl152]
  exact ⟨fun h => h.2, fun h => ⟨show (1 : Nat) ≤ 2 by decide, h⟩⟩
theorem vs153 {X : vi_Ex} {r : Nat} {S : vi_Me} {post : Option Value → vi_Me → Prop} : vo X 153 [.ref r] S post ↔ vw X 153 vc153_0 [some (.ref r), none] [] S post := by
  unfold vo
  rw [vb153_0, vl153]
  exact ⟨fun h => h.2, fun h => ⟨show (1 : Nat) ≤ 2 by decide, h⟩⟩
theorem vs154 {X : vi_Ex} {r : Nat} {S : vi_Me} {post : Option Value → vi_Me → Prop} : vo X 154 [.ref r] S post ↔ vw X 154 vc154_0 [some (.ref r), none, none, none, none] [] S post := by
  unfold vo
  rw [vb154_0, vl154]
  exact ⟨fun h => h.2, fun h => ⟨show (1 : Nat) ≤ 5 by decide, h⟩⟩
theorem vs155 {X : vi_Ex} {r : Nat} {x0 : Int32} {S : vi_Me} {post : Option Value → vi_Me → Prop} : vo X 155 [.ref r, .int x0] S post ↔ vw X 155 vc155_0 [some (.ref r), some (.int x0)] [] S post := by
  unfold vo
  rw [vb155_0, vl155]
  exact ⟨fun h => h.2, fun h => ⟨show (2 : Nat) ≤ 2 by decide, h⟩⟩
theorem vs156 {X : vi_Ex} {r : Nat} {x0 : Int32} {S : vi_Me} {post : Option Value → vi_Me → Prop} : vo X 156 [.ref r, .int x0] S post ↔ vw X 156 vc156_0 [some (.ref r), some (.int x0), none, none] [] S post := by
  unfold vo
  rw [vb156_0, vl156]
  exact ⟨fun h => h.2, fun h => ⟨show (2 : Nat) ≤ 4 by decide, h⟩⟩
theorem vs157 {X : vi_Ex} {r : Nat} {x0 : Int32} {S : vi_Me} {post : Option Value → vi_Me → Prop} : vo X 157 [.ref r, .int x0] S post ↔ vw X 157 vc157_0 [some (.ref r), some (.int x0)] [] S post := by
  unfold vo
  rw [vb157_0, vl157]
  exact ⟨fun h => h.2, fun h => ⟨show (2 : Nat) ≤ 2 by decide, h⟩⟩
theorem vs158 {X : vi_Ex} {r : Nat} {x0 : Int32} {S : vi_Me} {post : Option Value → vi_Me → Prop} : vo X 158 [.ref r, .int x0] S post ↔ vw X 158 vc158_0 [some (.ref r), some (.int x0)] [] S post := by
  unfold vo
  rw [vb158_0, vl158]
  exact ⟨fun h => h.2, fun h => ⟨show (2 : Nat) ≤ 2 by decide, h⟩⟩
theorem vs159 {X : vi_Ex} {r : Nat} {x0 : Int32} {x1 : Int32} {S : vi_Me} {post : Option Value → vi_Me → Prop} : vo X 159 [.ref r, .int x0, .int x1] S post ↔ vw X 159 vc159_0 [some (.ref r), some (.int x0), some (.int x1)] [] S post := by
  unfold vo
  rw [vb159_0, vl159]
  exact ⟨fun h => h.2, fun h => ⟨show (3 : Nat) ≤ 3 by decide, h⟩⟩
theorem vs160 {X : vi_Ex} {r : Nat} {S : vi_Me} {post : Option Value → vi_Me → Prop} : vo X 160 [.ref r] S post ↔ vw X 160 vc160_0 [some (.ref r), none, none, none, none] [] S post := by
  unfold vo
  rw [vb160_0, vl160]
  exact ⟨fun h => h.2, fun h => ⟨show (1 : Nat) ≤ 5 by decide, h⟩⟩
theorem vs161 {X : vi_Ex} {r : Nat} {x0 : Int32} {x1 : Int32} {S : vi_Me} {post : Option Value → vi_Me → Prop} : vo X 161 [.ref r, .int x0, .int x1] S post ↔ vw X 161 vc161_0 [some (.ref r), some (.int x0), some (.int x1), none, none] [] S post := by
  unfold vo
  rw [vb161_0, vl161]
  exact ⟨fun h => h.2, fun h => ⟨show (3 : Nat) ≤ 5 by decide, h⟩⟩
theorem vs162 {X : vi_Ex} {r : Nat} {x0 : Int32} {x1 : Int32} {S : vi_Me} {post : Option Value → vi_Me → Prop} : vo X 162 [.ref r, .int x0, .int x1] S post ↔ vw X 162 vc162_0 [some (.ref r), some (.int x0), some (.int x1)] [] S post := by
  unfold vo
  rw [vb162_0, vl162]
  exact ⟨fun h => h.2, fun h => ⟨show (3 : Nat) ≤ 3 by decide, h⟩⟩
theorem vs163 {X : vi_Ex} {r : Nat} {S : vi_Me} {post : Option Value → vi_Me → Prop} : vo X 163 [.ref r] S post ↔ vw X 163 vc163_0 [some (.ref r), none, none] [] S post := by
  unfold vo
  rw [vb163_0, vl163]
  exact ⟨fun h => h.2, fun h => ⟨show (1 : Nat) ≤ 3 by decide, h⟩⟩
theorem vs164 {X : vi_Ex} {x0 : Int32} {S : vi_Me} {post : Option Value → vi_Me → Prop} : vo X 164 [.int x0] S post ↔ vw X 164 vc164_0 [some (.int x0), none, none, none, none] [] S post := by
  unfold vo
  rw [vb164_0, vl164]
  exact ⟨fun h => h.2, fun h => ⟨show (1 : Nat) ≤ 5 by decide, h⟩⟩
theorem vs165 {X : vi_Ex} {x0 : Int32} {S : vi_Me} {post : Option Value → vi_Me → Prop} : vo X 165 [.int x0] S post ↔ vw X 165 vc165_0 [some (.int x0)] [] S post := by
  unfold vo
  rw [vb165_0, vl165]
  exact ⟨fun h => h.2, fun h => ⟨show (1 : Nat) ≤ 1 by decide, h⟩⟩
theorem vs166 {X : vi_Ex} {r : Nat} {S : vi_Me} {post : Option Value → vi_Me → Prop} : vo X 166 [.ref r] S post ↔ vw X 166 vc166_0 [some (.ref r), none, none, none, none, none, none] [] S post := by
  unfold vo
  rw [vb166_0, vl166]
  exact ⟨fun h => h.2, fun h => ⟨show (1 : Nat) ≤ 7 by decide, h⟩⟩
theorem vs167 {X : vi_Ex} {x0 : Int32} {S : vi_Me} {post : Option Value → vi_Me → Prop} : vo X 167 [.int x0] S post ↔ vw X 167 vc167_0 [some (.int x0), none, none, none, none] [] S post := by
  unfold vo
  rw [vb167_0, vl167]
  exact ⟨fun h => h.2, fun h => ⟨show (1 : Nat) ≤ 5 by decide, h⟩⟩
theorem vs168 {X : vi_Ex} {r : Nat} {S : vi_Me} {post : Option Value → vi_Me → Prop} : vo X 168 [.ref r] S post ↔ vw X 168 vc168_0 [some (.ref r), none, none, none, none] [] S post := by
  unfold vo
  rw [vb168_0, vl168]
  exact ⟨fun h => h.2, fun h => ⟨show (1 : Nat) ≤ 5 by decide, h⟩⟩
theorem vs169 {X : vi_Ex} {r : Nat} {x0 : Int32} {S : vi_Me} {post : Option Value → vi_Me → Prop} : vo X 169 [.ref r, .int x0] S post ↔ vw X 169 vc169_0 [some (.ref r), some (.int x0)] [] S post := by
  unfold vo
  rw [vb169_0, vl169]
  exact ⟨fun h => h.2, fun h => ⟨show (2 : Nat) ≤ 2 by decide, h⟩⟩
theorem vs170 {X : vi_Ex} {r : Nat} {x0 : Int32} {S : vi_Me} {post : Option Value → vi_Me → Prop} : vo X 170 [.ref r, .int x0] S post ↔ vw X 170 vc170_0 [some (.ref r), some (.int x0), none] [] S post := by
  unfold vo
  rw [vb170_0, vl170]
  exact ⟨fun h => h.2, fun h => ⟨show (2 : Nat) ≤ 3 by decide, h⟩⟩
theorem vs171 {X : vi_Ex} {r : Nat} {x0 : Int32} {S : vi_Me} {post : Option Value → vi_Me → Prop} : vo X 171 [.ref r, .int x0] S post ↔ vw X 171 vc171_0 [some (.ref r), some (.int x0), none, none] [] S post := by
  unfold vo
  rw [vb171_0, vl171]
  exact ⟨fun h => h.2, fun h => ⟨show (2 : Nat) ≤ 4 by decide, h⟩⟩
theorem vs172 {X : vi_Ex} {r : Nat} {S : vi_Me} {post : Option Value → vi_Me → Prop} : vo X 172 [.ref r] S post ↔ vw X 172 vc172_0 [some (.ref r), none] [] S post := by
  unfold vo
  rw [vb172_0, vl172]
  exact ⟨fun h => h.2, fun h => ⟨show (1 : Nat) ≤ 2 by decide, h⟩⟩
theorem vs173 {X : vi_Ex} {r : Nat} {S : vi_Me} {post : Option Value → vi_Me → Prop} : vo X 173 [.ref r] S post ↔ vw X 173 vc173_0 [some (.ref r)] [] S post := by
  unfold vo
  rw [vb173_0, vl173]
  exact ⟨fun h => h.2, fun h => ⟨show (1 : Nat) ≤ 1 by decide, h⟩⟩
theorem vs174 {X : vi_Ex} {r : Nat} {S : vi_Me} {post : Option Value → vi_Me → Prop} : vo X 174 [.ref r] S post ↔ vw X 174 vc174_0 [some (.ref r), none, none, none, none, none] [] S post := by
  unfold vo
  rw [vb174_0, vl174]
  exact ⟨fun h => h.2, fun h => ⟨show (1 : Nat) ≤ 6 by decide, h⟩⟩
theorem vs175 {X : vi_Ex} {r : Nat} {x0 : Int32} {S : vi_Me} {post : Option Value → vi_Me → Prop} : vo X 175 [.ref r, .int x0] S post ↔ vw X 175 vc175_0 [some (.ref r), some (.int x0)] [] S post := by
  unfold vo
  rw [vb175_0, vl175]
  exact ⟨fun h => h.2, fun h => ⟨show (2 : Nat) ≤ 2 by decide, h⟩⟩
theorem vs176 {X : vi_Ex} {r : Nat} {x0 : Int32} {S : vi_Me} {post : Option Value → vi_Me → Prop} : vo X 176 [.ref r, .int x0] S post ↔ vw X 176 vc176_0 [some (.ref r), some (.int x0), none, none, none] [] S post := by
  unfold vo
  rw [vb176_0, vl176]
  exact ⟨fun h => h.2, fun h => ⟨show (2 : Nat) ≤ 5 by decide, h⟩⟩
theorem vs177 {X : vi_Ex} {r : Nat} {S : vi_Me} {post : Option Value → vi_Me → Prop} : vo X 177 [.ref r] S post ↔ vw X 177 vc177_0 [some (.ref r), none] [] S post := by
  unfold vo
  rw [vb177_0, vl177]
  exact ⟨fun h => h.2, fun h => ⟨show (1 : Nat) ≤ 2 by decide, h⟩⟩
theorem vs178 {X : vi_Ex} {r : Nat} {x0 : Int32} {S : vi_Me} {post : Option Value → vi_Me → Prop} : vo X 178 [.ref r, .int x0] S post ↔ vw X 178 vc178_0 [some (.ref r), some (.int x0), none, none, none, none] [] S post := by
  unfold vo
  rw [vb178_0, vl178]
  exact ⟨fun h => h.2, fun h => ⟨show (2 : Nat) ≤ 6 by decide, h⟩⟩
theorem vs179 {X : vi_Ex} {r : Nat} {x0 : Int32} {S : vi_Me} {post : Option Value → vi_Me → Prop} : vo X 179 [.ref r, .int x0] S post ↔ vw X 179 vc179_0 [some (.ref r), some (.int x0), none, none, none, none] [] S post := by
  unfold vo
  rw [vb179_0, vl179]
  exact ⟨fun h => h.2, fun h => ⟨show (2 : Nat) ≤ 6 by decide, h⟩⟩
theorem vs180 {X : vi_Ex} {r : Nat} {S : vi_Me} {post : Option Value → vi_Me → Prop} : vo X 180 [.ref r] S post ↔ vw X 180 vc180_0 [some (.ref r)] [] S post := by
  unfold vo
  rw [vb180_0, vl180]
  exact ⟨fun h => h.2, fun h => ⟨show (1 : Nat) ≤ 1 by decide, h⟩⟩
theorem vs181 {X : vi_Ex} {r : Nat} {x0 : Int32} {x1 : Int32} {S : vi_Me} {post : Option Value → vi_Me → Prop} : vo X 181 [.ref r, .int x0, .int x1] S post ↔ vw X 181 vc181_0 [some (.ref r), some (.int x0), some (.int x1)] [] S post := by
  unfold vo
  rw [vb181_0, vl181]
  exact ⟨fun h => h.2, fun h => ⟨show (3 : Nat) ≤ 3 by decide, h⟩⟩
theorem vs182 {X : vi_Ex} {r : Nat} {x0 : Int32} {S : vi_Me} {post : Option Value → vi_Me → Prop} : vo X 182 [.ref r, .int x0] S post ↔ vw X 182 vc182_0 [some (.ref r), some (.int x0)] [] S post := by
  unfold vo
  rw [vb182_0, vl182]
  exact ⟨fun h => h.2, fun h => ⟨show (2 : Nat) ≤ 2 by decide, h⟩⟩
theorem vs183 {X : vi_Ex} {r : Nat} {x0 : Int32} {S : vi_Me} {post : Option Value → vi_Me → Prop} : vo X 183 [.ref r, .int x0] S post ↔ vw X 183 vc183_0 [some (.ref r), some (.int x0)] [] S post := by
  unfold vo
  rw [vb183_0, vl183]
  exact ⟨fun h => h.2, fun h => ⟨show (2 : Nat) ≤ 2 by decide, h⟩⟩
theorem vs184 {X : vi_Ex} {r : Nat} {x0 : Int32} {S : vi_Me} {post : Option Value → vi_Me → Prop} : vo X 184 [.ref r, .int x0] S post ↔ vw X 184 vc184_0 [some (.ref r), some (.int x0), none, none] [] S post := by
  unfold vo
  rw [vb184_0, vl184]
  exact ⟨fun h => h.2, fun h => ⟨show (2 : Nat) ≤ 4 by decide, h⟩⟩
theorem vs185 {X : vi_Ex} {r : Nat} {x0 : Int32} {x1 : Int32} {S : vi_Me} {post : Option Value → vi_Me → Prop} : vo X 185 [.ref r, .int x0, .int x1] S post ↔ vw X 185 vc185_0 [some (.ref r), some (.int x0), some (.int x1), none] [] S post := by
  unfold vo
  rw [vb185_0, vl185]
  exact ⟨fun h => h.2, fun h => ⟨show (3 : Nat) ≤ 4 by decide, h⟩⟩
theorem vs186 {X : vi_Ex} {r : Nat} {x0 : Int32} {x1 : Int32} {S : vi_Me} {post : Option Value → vi_Me → Prop} : vo X 186 [.ref r, .int x0, .int x1] S post ↔ vw X 186 vc186_0 [some (.ref r), some (.int x0), some (.int x1), none, none] [] S post := by
  unfold vo
  rw [vb186_0, vl186]
  exact ⟨fun h => h.2, fun h => ⟨show (3 : Nat) ≤ 5 by decide, h⟩⟩
theorem vs187 {X : vi_Ex} {r : Nat} {x0 : Int32} {x1 : Int32} {S : vi_Me} {post : Option Value → vi_Me → Prop} : vo X 187 [.ref r, .int x0, .int x1] S post ↔ vw X 187 vc187_0 [some (.ref r), some (.int x0), some (.int x1), none] [] S post := by
  unfold vo
  rw [vb187_0, vl187]
  exact ⟨fun h => h.2, fun h => ⟨show (3 : Nat) ≤ 4 by decide, h⟩⟩
theorem vs188 {X : vi_Ex} {r : Nat} {S : vi_Me} {post : Option Value → vi_Me → Prop} : vo X 188 [.ref r] S post ↔ vw X 188 vc188_0 [some (.ref r), none] [] S post := by
  unfold vo
  rw [vb188_0, vl188]
  exact ⟨fun h => h.2, fun h => ⟨show (1 : Nat) ≤ 2 by decide, h⟩⟩
theorem vs189 {X : vi_Ex} {r : Nat} {S : vi_Me} {post : Option Value → vi_Me → Prop} : vo X 189 [.ref r] S post ↔ vw X 189 vc189_0 [some (.ref r)] [] S post := by
  unfold vo
  rw [vb189_0, vl189]
  exact ⟨fun h => h.2, fun h => ⟨show (1 : Nat) ≤ 1 by decide, h⟩⟩
theorem vs190 {X : vi_Ex} {r : Nat} {S : vi_Me} {post : Option Value → vi_Me → Prop} : vo X 190 [.ref r] S post ↔ vw X 190 vc190_0 [some (.ref r), none] [] S post := by
  unfold vo
  rw [vb190_0, vl190]
  exact ⟨fun h => h.2, fun h => ⟨show (1 : Nat) ≤ 2 by decide, h⟩⟩
theorem vs191 {X : vi_Ex} {r : Nat} {x0 : Int32} {S : vi_Me} {post : Option Value → vi_Me → Prop} : vo X 191 [.ref r, .int x0] S post ↔ vw X 191 vc191_0 [some (.ref r), some (.int x0), none, none] [] S post := by
  unfold vo
  rw [vb191_0, vl191]
  exact ⟨fun h => h.2, fun h => ⟨show (2 : Nat) ≤ 4 by decide, h⟩⟩
theorem vs192 {X : vi_Ex} {r : Nat} {S : vi_Me} {post : Option Value → vi_Me → Prop} : vo X 192 [.ref r] S post ↔ vw X 192 vc192_0 [some (.ref r), none, none, none] [] S post := by
  unfold vo
  rw [vb192_0, vl192]
  exact ⟨fun h => h.2, fun h => ⟨show (1 : Nat) ≤ 4 by decide, h⟩⟩
theorem vs193 {X : vi_Ex} {r : Nat} {S : vi_Me} {post : Option Value → vi_Me → Prop} : vo X 193 [.ref r] S post ↔ vw X 193 vc193_0 [some (.ref r), none, none, none, none, none] [] S post := by
  unfold vo
  rw [vb193_0, vl193]
  exact ⟨fun h => h.2, fun h => ⟨show (1 : Nat) ≤ 6 by decide, h⟩⟩
theorem vs194 {X : vi_Ex} {r : Nat} {x0 : Int64} {S : vi_Me} {post : Option Value → vi_Me → Prop} : vo X 194 [.ref r, .long x0] S post ↔ vw X 194 vc194_0 [some (.ref r), some (.long x0), none] [] S post := by
  unfold vo
  rw [vb194_0, vl194]
  exact ⟨fun h => h.2, fun h => ⟨show (3 : Nat) ≤ 3 by decide, h⟩⟩
theorem vs195 {X : vi_Ex} {r : Nat} {x0 : Int64} {x1 : Int64} {S : vi_Me} {post : Option Value → vi_Me → Prop} : vo X 195 [.ref r, .long x0, .long x1] S post ↔ vw X 195 vc195_0 [some (.ref r), some (.long x0), none, some (.long x1), none] [] S post := by
  unfold vo
  rw [vb195_0, vl195]
  exact ⟨fun h => h.2, fun h => ⟨show (5 : Nat) ≤ 5 by decide, h⟩⟩
theorem vs196 {X : vi_Ex} {r : Nat} {x0 : Int64} {S : vi_Me} {post : Option Value → vi_Me → Prop} : vo X 196 [.ref r, .long x0] S post ↔ vw X 196 vc196_0 [some (.ref r), some (.long x0), none] [] S post := by
  unfold vo
  rw [vb196_0, vl196]
  exact ⟨fun h => h.2, fun h => ⟨show (3 : Nat) ≤ 3 by decide, h⟩⟩
theorem vs197 {X : vi_Ex} {r : Nat} {x0 : Int64} {x1 : Int32} {x2 : Int64} {S : vi_Me} {post : Option Value → vi_Me → Prop} : vo X 197 [.ref r, .long x0, .int x1, .long x2] S post ↔ vw X 197 vc197_0 [some (.ref r), some (.long x0), none, some (.int x1), some (.long x2), none, none] [] S post := by
  unfold vo
  rw [vb197_0, vl197]
  exact ⟨fun h => h.2, fun h => ⟨show (6 : Nat) ≤ 7 by decide, h⟩⟩
theorem vs198 {X : vi_Ex} {r : Nat} {x0 : Int64} {x1 : Int32} {S : vi_Me} {post : Option Value → vi_Me → Prop} : vo X 198 [.ref r, .long x0, .int x1] S post ↔ vw X 198 vc198_0 [some (.ref r), some (.long x0), none, some (.int x1), none] [] S post := by
  unfold vo
  rw [vb198_0, vl198]
  exact ⟨fun h => h.2, fun h => ⟨show (4 : Nat) ≤ 5 by decide, h⟩⟩
theorem vs199 {X : vi_Ex} {r : Nat} {S : vi_Me} {post : Option Value → vi_Me → Prop} : vo X 199 [.ref r] S post ↔ vw X 199 vc199_0 [some (.ref r), none, none] [] S post := by
  unfold vo
  rw [vb199_0, vl199]
  exact ⟨fun h => h.2, fun h => ⟨show (1 : Nat) ≤ 3 by decide, h⟩⟩
theorem vs200 {X : vi_Ex} {r : Nat} {x0 : Int32} {x1 : Int32} {x2 : Int32} {S : vi_Me} {post : Option Value → vi_Me → Prop} : vo X 200 [.ref r, .int x0, .int x1, .int x2] S post ↔ vw X 200 vc200_0 [some (.ref r), some (.int x0), some (.int x1), some (.int x2)] [] S post := by
  unfold vo
  rw [vb200_0, vl200]
  exact ⟨fun h => h.2, fun h => ⟨show (4 : Nat) ≤ 4 by decide, h⟩⟩
theorem vs201 {X : vi_Ex} {r : Nat} {x0 : Int32} {S : vi_Me} {post : Option Value → vi_Me → Prop} : vo X 201 [.ref r, .int x0] S post ↔ vw X 201 vc201_0 [some (.ref r), some (.int x0), none, none, none, none] [] S post := by
  unfold vo
  rw [vb201_0, vl201]
  exact ⟨fun h => h.2, fun h => ⟨show (2 : Nat) ≤ 6 by decide, h⟩⟩
theorem vs202 {X : vi_Ex} {r : Nat} {S : vi_Me} {post : Option Value → vi_Me → Prop} : vo X 202 [.ref r] S post ↔ vw X 202 vc202_0 [some (.ref r), none, none, none, none] [] S post := by
  unfold vo
  rw [vb202_0, vl202]
  exact ⟨fun h => h.2, fun h => ⟨show (1 : Nat) ≤ 5 by decide, h⟩⟩
theorem vs203 {X : vi_Ex} {r : Nat} {x0 : Int32} {S : vi_Me} {post : Option Value → vi_Me → Prop} : vo X 203 [.ref r, .int x0] S post ↔ vw X 203 vc203_0 [some (.ref r), some (.int x0)] [] S post := by
  unfold vo
  rw [vb203_0, vl203]
  exact ⟨fun h => h.2, fun h => ⟨show (2 : Nat) ≤ 2 by decide, h⟩⟩
theorem vs204 {X : vi_Ex} {r : Nat} {x0 : Int32} {S : vi_Me} {post : Option Value → vi_Me → Prop} : vo X 204 [.ref r, .int x0] S post ↔ vw X 204 vc204_0 [some (.ref r), some (.int x0)] [] S post := by
  unfold vo
  rw [vb204_0, vl204]
  exact ⟨fun h => h.2, fun h => ⟨show (2 : Nat) ≤ 2 by decide, h⟩⟩
theorem vs205 {X : vi_Ex} {r : Nat} {x0 : Int32} {S : vi_Me} {post : Option Value → vi_Me → Prop} : vo X 205 [.ref r, .int x0] S post ↔ vw X 205 vc205_0 [some (.ref r), some (.int x0)] [] S post := by
  unfold vo
  rw [vb205_0, vl205]
  exact ⟨fun h => h.2, fun h => ⟨show (2 : Nat) ≤ 2 by decide, h⟩⟩
theorem vs206 {X : vi_Ex} {r : Nat} {S : vi_Me} {post : Option Value → vi_Me → Prop} : vo X 206 [.ref r] S post ↔ vw X 206 vc206_0 [some (.ref r), none, none, none, none] [] S post := by
  unfold vo
  rw [vb206_0, vl206]
  exact ⟨fun h => h.2, fun h => ⟨show (1 : Nat) ≤ 5 by decide, h⟩⟩
theorem vs207 {X : vi_Ex} {r : Nat} {S : vi_Me} {post : Option Value → vi_Me → Prop} : vo X 207 [.ref r] S post ↔ vw X 207 vc207_0 [some (.ref r), none, none, none] [] S post := by
  unfold vo
  rw [vb207_0, vl207]
  exact ⟨fun h => h.2, fun h => ⟨show (1 : Nat) ≤ 4 by decide, h⟩⟩
theorem vs208 {X : vi_Ex} {r : Nat} {S : vi_Me} {post : Option Value → vi_Me → Prop} : vo X 208 [.ref r] S post ↔ vw X 208 vc208_0 [some (.ref r), none, none] [] S post := by
  unfold vo
  rw [vb208_0, vl208]
  exact ⟨fun h => h.2, fun h => ⟨show (1 : Nat) ≤ 3 by decide, h⟩⟩
theorem vs209 {X : vi_Ex} {r : Nat} {x0 : Int32} {S : vi_Me} {post : Option Value → vi_Me → Prop} : vo X 209 [.ref r, .int x0] S post ↔ vw X 209 vc209_0 [some (.ref r), some (.int x0), none, none, none] [] S post := by
  unfold vo
  rw [vb209_0, vl209]
  exact ⟨fun h => h.2, fun h => ⟨show (2 : Nat) ≤ 5 by decide, h⟩⟩
theorem vs210 {X : vi_Ex} {r : Nat} {x0 : Int32} {x1 : Int32} {S : vi_Me} {post : Option Value → vi_Me → Prop} : vo X 210 [.ref r, .int x0, .int x1] S post ↔ vw X 210 vc210_0 [some (.ref r), some (.int x0), some (.int x1), none] [] S post := by
  unfold vo
  rw [vb210_0, vl210]
  exact ⟨fun h => h.2, fun h => ⟨show (3 : Nat) ≤ 4 by decide, h⟩⟩
theorem vs211 {X : vi_Ex} {r : Nat} {x0 : Int32} {S : vi_Me} {post : Option Value → vi_Me → Prop} : vo X 211 [.ref r, .int x0] S post ↔ vw X 211 vc211_0 [some (.ref r), some (.int x0)] [] S post := by
  unfold vo
  rw [vb211_0, vl211]
  exact ⟨fun h => h.2, fun h => ⟨show (2 : Nat) ≤ 2 by decide, h⟩⟩
theorem vs212 {X : vi_Ex} {r : Nat} {x0 : Int32} {S : vi_Me} {post : Option Value → vi_Me → Prop} : vo X 212 [.ref r, .int x0] S post ↔ vw X 212 vc212_0 [some (.ref r), some (.int x0), none, none, none, none] [] S post := by
  unfold vo
  rw [vb212_0, vl212]
  exact ⟨fun h => h.2, fun h => ⟨show (2 : Nat) ≤ 6 by decide, h⟩⟩
theorem vs213 {X : vi_Ex} {r : Nat} {x0 : Int32} {S : vi_Me} {post : Option Value → vi_Me → Prop} : vo X 213 [.ref r, .int x0] S post ↔ vw X 213 vc213_0 [some (.ref r), some (.int x0)] [] S post := by
  unfold vo
  rw [vb213_0, vl213]
  exact ⟨fun h => h.2, fun h => ⟨show (2 : Nat) ≤ 2 by decide, h⟩⟩
theorem vs214 {X : vi_Ex} {r : Nat} {x0 : Int32} {x1 : Int32} {S : vi_Me} {post : Option Value → vi_Me → Prop} : vo X 214 [.ref r, .int x0, .int x1] S post ↔ vw X 214 vc214_0 [some (.ref r), some (.int x0), some (.int x1), none] [] S post := by
  unfold vo
  rw [vb214_0, vl214]
  exact ⟨fun h => h.2, fun h => ⟨show (3 : Nat) ≤ 4 by decide, h⟩⟩
theorem vs215 {X : vi_Ex} {r : Nat} {x0 : Int32} {S : vi_Me} {post : Option Value → vi_Me → Prop} : vo X 215 [.ref r, .int x0] S post ↔ vw X 215 vc215_0 [some (.ref r), some (.int x0)] [] S post := by
  unfold vo
  rw [vb215_0, vl215]
  exact ⟨fun h => h.2, fun h => ⟨show (2 : Nat) ≤ 2 by decide, h⟩⟩
theorem vs216 {X : vi_Ex} {x0 : Int32} {S : vi_Me} {post : Option Value → vi_Me → Prop} : vo X 216 [.int x0] S post ↔ vw X 216 vc216_0 [some (.int x0)] [] S post := by
  unfold vo
  rw [vb216_0, vl216]
  exact ⟨fun h => h.2, fun h => ⟨show (1 : Nat) ≤ 1 by decide, h⟩⟩
theorem vs217 {X : vi_Ex} {r : Nat} {x0 : Int32} {S : vi_Me} {post : Option Value → vi_Me → Prop} : vo X 217 [.ref r, .int x0] S post ↔ vw X 217 vc217_0 [some (.ref r), some (.int x0)] [] S post := by
  unfold vo
  rw [vb217_0, vl217]
  exact ⟨fun h => h.2, fun h => ⟨show (2 : Nat) ≤ 2 by decide, h⟩⟩
theorem vs218 {X : vi_Ex} {r : Nat} {x0 : Int32} {S : vi_Me} {post : Option Value → vi_Me → Prop} : vo X 218 [.ref r, .int x0] S post ↔ vw X 218 vc218_0 [some (.ref r), some (.int x0)] [] S post := by
  unfold vo
  rw [vb218_0, vl218]
  exact ⟨fun h => h.2, fun h => ⟨show (2 : Nat) ≤ 2 by decide, h⟩⟩
theorem vs219 {X : vi_Ex} {r : Nat} {x0 : Int32} {x1 : Int32} {S : vi_Me} {post : Option Value → vi_Me → Prop} : vo X 219 [.ref r, .int x0, .int x1] S post ↔ vw X 219 vc219_0 [some (.ref r), some (.int x0), some (.int x1), none, none] [] S post := by
  unfold vo
  rw [vb219_0, vl219]
  exact ⟨fun h => h.2, fun h => ⟨show (3 : Nat) ≤ 5 by decide, h⟩⟩
theorem vs220 {X : vi_Ex} {r : Nat} {x0 : Int32} {S : vi_Me} {post : Option Value → vi_Me → Prop} : vo X 220 [.ref r, .int x0] S post ↔ vw X 220 vc220_0 [some (.ref r), some (.int x0), none, none, none] [] S post := by
  unfold vo
  rw [vb220_0, vl220]
  exact ⟨fun h => h.2, fun h => ⟨show (2 : Nat) ≤ 5 by decide, h⟩⟩
theorem vs221 {X : vi_Ex} {r : Nat} {S : vi_Me} {post : Option Value → vi_Me → Prop} : vo X 221 [.ref r] S post ↔ vw X 221 vc221_0 [some (.ref r)] [] S post := by
  unfold vo
  rw [vb221_0, vl221]
  exact ⟨fun h => h.2, fun h => ⟨show (1 : Nat) ≤ 1 by decide, h⟩⟩
theorem vs222 {X : vi_Ex} {r : Nat} {S : vi_Me} {post : Option Value → vi_Me → Prop} : vo X 222 [.ref r] S post ↔ vw X 222 vc222_0 [some (.ref r)] [] S post := by
  unfold vo
  rw [vb222_0, vl222]
  exact ⟨fun h => h.2, fun h => ⟨show (1 : Nat) ≤ 1 by decide, h⟩⟩
theorem vs223 {X : vi_Ex} {r : Nat} {x0 : Int32} {S : vi_Me} {post : Option Value → vi_Me → Prop} : vo X 223 [.ref r, .int x0] S post ↔ vw X 223 vc223_0 [some (.ref r), some (.int x0), none, none, none, none, none, none] [] S post := by
  unfold vo
  rw [vb223_0, vl223]
  exact ⟨fun h => h.2, fun h => ⟨show (2 : Nat) ≤ 8 by decide, h⟩⟩
theorem vs224 {X : vi_Ex} {r : Nat} {x0 : Int32} {x1 : Int32} {x2 : Int32} {S : vi_Me} {post : Option Value → vi_Me → Prop} : vo X 224 [.ref r, .int x0, .int x1, .int x2] S post ↔ vw X 224 vc224_0 [some (.ref r), some (.int x0), some (.int x1), some (.int x2), none] [] S post := by
  unfold vo
  rw [vb224_0, vl224]
  exact ⟨fun h => h.2, fun h => ⟨show (4 : Nat) ≤ 5 by decide, h⟩⟩
theorem vs225 {X : vi_Ex} {r : Nat} {x0 : Int32} {S : vi_Me} {post : Option Value → vi_Me → Prop} : vo X 225 [.ref r, .int x0] S post ↔ vw X 225 vc225_0 [some (.ref r), some (.int x0)] [] S post := by
  unfold vo
  rw [vb225_0, vl225]
  exact ⟨fun h => h.2, fun h => ⟨show (2 : Nat) ≤ 2 by decide, h⟩⟩
theorem vs226 {X : vi_Ex} {r : Nat} {x0 : Int32} {x1 : Int32} {S : vi_Me} {post : Option Value → vi_Me → Prop} : vo X 226 [.ref r, .int x0, .int x1] S post ↔ vw X 226 vc226_0 [some (.ref r), some (.int x0), some (.int x1)] [] S post := by
  unfold vo
  rw [vb226_0, vl226]
  exact ⟨fun h => h.2, fun h => ⟨show (3 : Nat) ≤ 3 by decide, h⟩⟩
theorem vs227 {X : vi_Ex} {r : Nat} {x0 : Int32} {S : vi_Me} {post : Option Value → vi_Me → Prop} : vo X 227 [.ref r, .int x0] S post ↔ vw X 227 vc227_0 [some (.ref r), some (.int x0), none, none] [] S post := by
  unfold vo
  rw [vb227_0, vl227]
  exact ⟨fun h => h.2, fun h => ⟨show (2 : Nat) ≤ 4 by decide, h⟩⟩
theorem vs228 {X : vi_Ex} {r : Nat} {x0 : Int32} {S : vi_Me} {post : Option Value → vi_Me → Prop} : vo X 228 [.ref r, .int x0] S post ↔ vw X 228 vc228_0 [some (.ref r), some (.int x0)] [] S post := by
  unfold vo
  rw [vb228_0, vl228]
  exact ⟨fun h => h.2, fun h => ⟨show (2 : Nat) ≤ 2 by decide, h⟩⟩
theorem vs229 {X : vi_Ex} {r : Nat} {x0 : Int32} {x1 : Int32} {S : vi_Me} {post : Option Value → vi_Me → Prop} : vo X 229 [.ref r, .int x0, .int x1] S post ↔ vw X 229 vc229_0 [some (.ref r), some (.int x0), some (.int x1), none, none, none, none] [] S post := by
  unfold vo
  rw [vb229_0, vl229]
  exact ⟨fun h => h.2, fun h => ⟨show (3 : Nat) ≤ 7 by decide, h⟩⟩
theorem vs230 {X : vi_Ex} {r : Nat} {x0 : Int32} {S : vi_Me} {post : Option Value → vi_Me → Prop} : vo X 230 [.ref r, .int x0] S post ↔ vw X 230 vc230_0 [some (.ref r), some (.int x0), none, none] [] S post := by
  unfold vo
  rw [vb230_0, vl230]
  exact ⟨fun h => h.2, fun h => ⟨show (2 : Nat) ≤ 4 by decide, h⟩⟩
theorem vs231 {X : vi_Ex} {x0 : Nat} {S : vi_Me} {post : Option Value → vi_Me → Prop} : vo X 231 [.ref x0] S post ↔ vw X 231 vc231_0 [some (.ref x0), none, none, none] [] S post := by
  unfold vo
  rw [vb231_0, vl231]
  exact ⟨fun h => h.2, fun h => ⟨show (1 : Nat) ≤ 4 by decide, h⟩⟩
